/** Everything that the questions of a laboratory answer, as one text. Not a test by itself. */
final class View {
  private View() {
  }

  static String of(ForecastLab lab) {
    StringBuilder text = new StringBuilder(stateOf(lab));
    add(text, "\nerror position", lab::errorPosition);
    add(text, "failed command", lab::failedCommand);
    add(text, "line", () -> lineOf(lab));
    return text.toString();
  }

  /** The part that is undone, saved and restored. */
  static String stateOf(ForecastLab lab) {
    StringBuilder text = new StringBuilder();
    text.append("limit ").append(lab.limit()).append(" prophets ").append(lab.prophets());
    for (int series = 0; series < 4; series++) addSeries(text, lab, series);
    for (int prophet = 0; prophet < lab.prophets(); prophet++) addProphet(text, lab, prophet);
    add(text, "\nbest", lab::bestProphet);
    add(text, "outlier share", lab::outlierShare);
    add(text, "consistent", lab::isConsistent);
    return text.toString();
  }

  static String lineOf(ForecastLab lab) {
    StringBuilder line = new StringBuilder();
    for (int index = 0; index < 1000; index++) {
      int place = index;
      Object sign = Check.outcome(() -> lab.charAt(place));
      if (!(sign instanceof Character)) return line.toString();
      line.append(sign);
    }
    return line.toString();
  }

  private static void addSeries(StringBuilder text, ForecastLab lab, int series) {
    text.append("\nseries ").append(series).append(':');
    for (int day = 0; day < lab.days(series); day++) {
      text.append(' ').append(lab.value(series, day));
      if (lab.isOutlier(series, day)) text.append('!');
    }
    text.append(" rise ").append(lab.longestRise(series)).append(" outliers ").append(lab.outliers(series));
    for (int parameter = 1; parameter <= 9; parameter++) {
      int p = parameter;
      add(text, "smoothed", () -> lab.smoothed(series, p));
    }
    for (int count = 1; count <= lab.days(series); count++) {
      text.append(" median ").append(lab.median(series, count));
      text.append(" mean ").append(lab.movingAverage(series, count));
    }
  }

  private static void addProphet(StringBuilder text, ForecastLab lab, int prophet) {
    text.append("\nprophet ").append(lab.kind(prophet)).append(lab.parameter(prophet));
    for (int series = 0; series < 4; series++) {
      int s = series;
      text.append(" errors ").append(lab.errors(prophet, s)).append('/').append(lab.errorSum(prophet, s));
      text.append('/').append(lab.errorSumByBacktest(prophet, s)).append(" points ").append(lab.points(prophet, s));
      add(text, "forecast", () -> lab.forecast(prophet, s));
    }
    add(text, "mean error", () -> lab.meanError(prophet));
    add(text, "at this rank", () -> lab.prophetByPoints(prophet));
  }

  private static void add(StringBuilder text, String what, Check.Call call) {
    text.append(' ').append(what).append(' ').append(Check.outcome(call));
  }
}
