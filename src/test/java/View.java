/**
 * What the later calls of a laboratory answer, as a text. Each part is asked of the same laboratory made again, so that
 * none of them is called too often, and calls that change it can be asked too. Not a test by itself.
 */
final class View {
  private static final int MOST_CHARACTERS = 160;

  private View() {
  }

  static String of(Lab lab) {
    return besideTheProgram(lab) + recordsOf(lab) + bufferOf(lab);
  }

  /** All but what run() may change when it refuses: the buffer, the error position and the failed command. */
  static String besideTheProgram(Lab lab) {
    return stateOf(lab) + pastOf(lab) + savedOf(lab) + "\nline \"" + lineOf(lab) + '"';
  }

  /** The part that is undone, saved and restored. */
  static String stateOf(Lab lab) {
    StringBuilder text = new StringBuilder(scoresOf(lab.again()));
    for (int series = 0; series < 4; series++) text.append(seriesOf(lab.again(), series));
    int prophets = lab.again().prophets();
    for (int prophet = 0; prophet < prophets; prophet++) text.append(prophetOf(lab.again(), prophet));
    return text.toString();
  }

  static String lineOf(Lab lab) {
    Lab again = lab.again();
    StringBuilder line = new StringBuilder();
    for (int index = 0; index < MOST_CHARACTERS; index++) {
      int place = index;
      Object sign = Check.outcome(() -> again.charAt(place));
      if (!(sign instanceof Character)) return line.toString();
      line.append(sign);
    }
    return line.toString();
  }

  private static String scoresOf(Lab again) {
    StringBuilder text = new StringBuilder("limit " + again.limit() + " prophets " + again.prophets());
    add(text, "best", again::bestProphet);
    add(text, "share", again::outlierShare);
    add(text, "consistent", again::isConsistent);
    for (int rank = 0; rank <= 8; rank++) {
      int r = rank;
      add(text, "rank", () -> again.prophetByPoints(r));
    }
    return text.toString();
  }

  private static String seriesOf(Lab again, int series) {
    int days = again.days(series);
    StringBuilder text = new StringBuilder("\nseries " + series + ":");
    for (int day = 0; day < days; day++) {
      text.append(' ').append(again.value(series, day)).append(again.isOutlier(series, day) ? "!" : "");
    }
    text.append(" rise ").append(again.longestRise(series)).append(" outliers ").append(again.outliers(series));
    add(text, "range", () -> again.range(series));
    add(text, "level", () -> again.smoothed(series, 3));
    for (int count = 1; count <= days; count++) {
      text.append(" median ").append(again.median(series, count));
      text.append(" mean ").append(again.movingAverage(series, count));
    }
    return text.toString();
  }

  private static String prophetOf(Lab again, int prophet) {
    StringBuilder text = new StringBuilder("\nprophet " + again.kind(prophet) + again.parameter(prophet));
    for (int series = 0; series < 4; series++) {
      int s = series;
      text.append(" errors ").append(again.errors(prophet, s)).append('/').append(again.errorSum(prophet, s));
      text.append('/').append(again.errorSumByBacktest(prophet, s)).append(" points ").append(again.points(prophet, s));
      add(text, "forecast", () -> again.forecast(prophet, s));
    }
    add(text, "mean error", () -> again.meanError(prophet));
    return text.toString();
  }

  /** The state in few calls. */
  private static String briefly(Lab again) {
    int prophets = again.prophets();
    StringBuilder text = new StringBuilder("limit " + again.limit() + " prophets");
    for (int prophet = 0; prophet < prophets; prophet++) {
      text.append(' ').append(again.kind(prophet)).append(again.parameter(prophet));
      for (int series = 0; series < 4; series++) {
        text.append('/').append(again.errorSum(prophet, series)).append('/').append(again.points(prophet, series));
      }
    }
    for (int series = 0; series < 4; series++) {
      int days = again.days(series);
      text.append(" series ").append(series).append(':');
      for (int day = 0; day < days; day++) text.append(' ').append(again.value(series, day));
    }
    return text.toString();
  }

  /** What one undo after the other answers, and the state behind each. */
  static String pastOf(Lab lab) {
    StringBuilder text = new StringBuilder();
    for (int undos = 1; undos <= 9; undos++) {
      Lab again = lab.again();
      for (int undo = 1; undo < undos; undo++) Check.outcome(again::undo);
      add(text, "\nundo", again::undo);
      text.append(' ').append(briefly(again));
    }
    return text.toString();
  }

  private static String savedOf(Lab lab) {
    Lab again = lab.again();
    StringBuilder text = new StringBuilder();
    add(text, "\nrestore", again::restore);
    text.append(' ').append(briefly(again));
    add(text, "undo", again::undo);
    return text.toString();
  }

  private static String recordsOf(Lab lab) {
    Lab again = lab.again();
    StringBuilder text = new StringBuilder();
    add(text, "\nerror position", again::errorPosition);
    add(text, "failed command", again::failedCommand);
    return text.toString();
  }

  /** The number of characters in the buffer, and what they do. */
  private static String bufferOf(Lab lab) {
    Lab again = lab.again();
    Lab other = lab.again();
    StringBuilder text = new StringBuilder();
    add(text, "\ntype", () -> again.type('#'));
    add(text, "run", other::run);
    return text.append(' ').append(briefly(other)).append(recordsOf(other)).toString();
  }

  private static void add(StringBuilder text, String what, Check.Call call) {
    text.append(' ').append(what).append(' ').append(Check.outcome(call));
  }
}
