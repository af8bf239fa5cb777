import java.util.NoSuchElementException;

/** Promises 37 to 40: the program buffer, programs and their errors. */
public final class ProgramTest {
  private static final Class<IllegalArgumentException> BAD_ARGUMENT = IllegalArgumentException.class;
  private static final Class<UnsupportedOperationException> FAILED = UnsupportedOperationException.class;
  private static final Class<IllegalStateException> BAD_STATE = IllegalStateException.class;
  private static final Class<NoSuchElementException> NO_ELEMENT = NoSuchElementException.class;

  public static void main(String[] args) {
    promise37();
    promise38Executes();
    promise38Fails();
    promise38IsOneChange();
    promise38LeavesNothingBehind();
    promise39();
    promise39Stays();
    promise40();
    Check.end("ProgramTest");
  }

  private static void enter(ForecastLab lab, String text) {
    for (int i = 0; i < text.length(); i++) lab.type(text.charAt(i));
  }

  private static void runs(ForecastLab lab, String text, int commands) {
    enter(lab, text);
    Check.answers("38 run \"" + text + "\"", commands, lab::run);
    emptyBuffer(lab);
  }

  private static void isNoProgram(ForecastLab lab, String text, int position) {
    String before = View.stateOf(lab);
    enter(lab, text);
    Check.answers("38 no program \"" + text + "\"", BAD_ARGUMENT, lab::run);
    Check.answers("39 position in \"" + text + "\"", position, lab::errorPosition);
    Check.answers("38 changes nothing", before, () -> View.stateOf(lab));
    emptyBuffer(lab);
  }

  private static void failsAt(ForecastLab lab, String text, int command) {
    String before = View.stateOf(lab);
    enter(lab, text);
    Check.answers("38 fails \"" + text + "\"", FAILED, lab::run);
    Check.answers("40 command in \"" + text + "\"", command, lab::failedCommand);
    Check.answers("38 executes none", before, () -> View.stateOf(lab));
    emptyBuffer(lab);
  }

  /** One character, which no program begins with, must be all that the buffer holds. */
  private static void emptyBuffer(ForecastLab lab) {
    Check.answers("38 the buffer is empty", 1, () -> lab.type('#'));
    Check.answers("38 the only character", BAD_ARGUMENT, lab::run);
    Check.answers("39 the only character", 0, lab::errorPosition);
  }

  private static void promise37() {
    ForecastLab lab = new ForecastLab();
    char[] any = {'p', ' ', '\0', '\uffff', '\u1234', ';', '=', '0', '\n', '\u0080'};
    for (int typed = 1; typed <= 60; typed++) {
      char character = any[typed % any.length];
      int length = typed;
      Check.answers("37 typed", length, () -> lab.type(character));
    }
    Check.fails(lab, "37 full", BAD_STATE, () -> lab.type('p'));
    Check.fails(lab, "37 still full", BAD_STATE, () -> lab.type(' '));
    Check.answers("37 no program", BAD_ARGUMENT, lab::run);
    Check.answers("37 empty again", 1, () -> lab.type('p'));
  }

  private static void promise38Executes() {
    ForecastLab lab = new ForecastLab();
    runs(lab, "prophet l", 1);
    runs(lab, "prophet t;prophet m3;prophet d4;prophet s9", 4);
    Check.answers("38 prophets", "l1 t1 m3 d4 s9 ", () -> kindsOf(lab));
    runs(lab, "limit 9", 1);
    Check.answers("38 limit", 9, lab::limit);
    runs(lab, "see 0=1,22,333,0,00,007,999", 1);
    Check.answers("38 days", 7, () -> lab.days(0));
    Check.answers("38 length", "0: 1 22 333 0 0 7 999!".length(), () -> lab.writeSeries(0));
    Check.answers("38 values", "0: 1 22 333 0 0 7 999!", () -> View.lineOf(lab));
    Check.answers("38 errors", 6, () -> lab.errors(0, 0));
    Check.answers("38 scores are kept", true, lab::isConsistent);
    runs(lab, "forget 0", 1);
    Check.answers("38 forgotten", 0, () -> lab.days(0));
    runs(lab, "see 1=5;see 2=6,7;limit 1;see 3=8;forget 2;see 1=9", 6);
    Check.answers("38 series 1", 2, () -> lab.days(1));
    Check.answers("38 series 2", 0, () -> lab.days(2));
    Check.answers("38 series 3", 8, () -> lab.value(3, 0));
    Check.answers("38 in order", 9, () -> lab.value(1, 1));
    runs(lab, "forget 1;forget 3;prophet m9;see 0=4;forget 0;prophet d1", 6);
    Check.answers("38 prophets", "l1 t1 m3 d4 s9 m9 d1 ", () -> kindsOf(lab));
    String longest = "see 0=1,2,3,4,5,6,7,8,9,0,1,2,3,4,5,6,7,8,9,0,1,2,3,4,5,6,78";
    Check.answers("38 the longest buffer", 60, longest::length);
    runs(lab, longest, 1);
    Check.answers("38 the longest text", 27, () -> lab.days(0));
    Check.answers("38 its last value", 78, () -> lab.value(0, 26));
    runs(lab, "limit 1;limit 2;limit 3;limit 4;limit 5;limit 6;limit 7", 7);
    Check.answers("38 the last limit", 7, lab::limit);
  }

  private static String kindsOf(ForecastLab lab) {
    StringBuilder kinds = new StringBuilder();
    for (int prophet = 0; prophet < lab.prophets(); prophet++) {
      kinds.append(lab.kind(prophet)).append(lab.parameter(prophet)).append(' ');
    }
    return kinds.toString();
  }

  private static void promise38Fails() {
    ForecastLab lab = new ForecastLab();
    lab.addProphet('s', 5);
    failsAt(lab, "prophet m0", 0);
    failsAt(lab, "prophet l;prophet d0;prophet t", 1);
    failsAt(lab, "prophet l;prophet t;prophet s0", 2);
    failsAt(lab, "see 4=1", 0);
    failsAt(lab, "see 0=1,2;see 9=1", 1);
    failsAt(lab, "limit 5;limit 0", 1);
    failsAt(lab, "limit 5;see 0=1;forget 4", 2);
    failsAt(lab, "forget 9", 0);
    for (int series = 0; series < 4; series++) failsAt(lab, "see " + series + "=1;prophet l", 1);
    for (int number = 1; number < 8; number++) lab.addProphet('m', number);
    failsAt(lab, "limit 4;prophet l;limit 5", 1);
    for (int day = 0; day < 28; day++) lab.observe(2, day);
    failsAt(lab, "limit 7;see 2=1,2,3;see 3=5", 1);
    failsAt(lab, "forget 2;see 2=7;limit 0", 2);
    runs(lab, "see 2=1,2", 1);
    failsAt(lab, "see 2=1", 0);
    failsAt(lab, "limit 1;limit 2;limit 3;limit 4;limit 5;limit 6;limit 0", 6);
    runs(lab, "forget 2;see 2=1", 2);
  }

  private static void promise38IsOneChange() {
    ForecastLab lab = new ForecastLab();
    enter(lab, "prophet l;see 0=1,2,3;limit 8");
    String before = View.stateOf(lab);
    lab.run();
    Check.answers("38 undo", 0, lab::undo);
    Check.answers("38 undone whole", before, () -> View.stateOf(lab));
    for (int limit = 1; limit <= 9; limit++) lab.setLimit(limit);
    failsAt(lab, "see 0=1;limit 0", 1);
    isNoProgram(lab, "limit", 5);
    Check.answers("38 a failed run is no change", 7, lab::undo);
    for (int left = 6; left >= 0; left--) {
      int due = left;
      Check.answers("38 the older changes stay", due, lab::undo);
    }
    Check.answers("38 the oldest state", 1, lab::limit);
  }

  /** Steps of an earlier text must not be executed again, nor its characters be read. */
  private static void promise38LeavesNothingBehind() {
    ForecastLab lab = new ForecastLab();
    runs(lab, "see 0=1,2,3,4", 1);
    runs(lab, "limit 5", 1);
    Check.answers("38 no older step", 4, () -> lab.days(0));
    isNoProgram(lab, "see 0=1,2,3;limit x", 18);
    runs(lab, "limit 6", 1);
    Check.answers("38 no step of a text that was none", 4, () -> lab.days(0));
    isNoProgram(lab, "see 0=", 6);
    isNoProgram(lab, "s", 1);
  }

  private static void promise39() {
    ForecastLab lab = new ForecastLab();
    Check.fails(lab, "39 no text yet", NO_ELEMENT, lab::errorPosition);
    enter(lab, "limit 5");
    lab.run();
    Check.fails(lab, "39 a program", NO_ELEMENT, lab::errorPosition);
    enter(lab, "limit 0");
    Check.answers("39 a command fails", FAILED, lab::run);
    Check.fails(lab, "39 a program too", NO_ELEMENT, lab::errorPosition);
    Check.answers("39 the empty text", BAD_ARGUMENT, lab::run);
    Check.answers("39 the empty text", 0, lab::errorPosition);
    String[] programs = {"prophet l", "prophet t;limit 3", "prophet m3;prophet d0;prophet s9", "see 0=1;see 9=12,345", "forget 7;limit 0"};
    for (String program : programs) prefixesOf(lab, program);
    // A bar stands before the character at which no program can continue.
    String[] wrong = {"|x", "|Prophet l", "| prophet l", "prophet|s", "prophet | l", "prophet |x", "prophet l|1", "prophet t| ",
        "prophet m|;", "prophet m|m", "prophet d|-", "prophet s1|0", "see |a", "see 1|0", "see 1|:", "see 1=|,", "see 1=| 5",
        "see 1=100|0", "see 1=1;|;", "see 1=1,|;", "see 1=1,| 2", "see 1=12|a", "see 1=1,2,333|3", "limit 1|0", "limit |x",
        "limit | 1", "forget 1|2", "forget |-", "forg|ot", "l|prophet l", "s|prophet", "f|see", "limit 1;| ", "limit 1;|,",
        "limit 1|,", "forget 1|:", "forget |/", "see 1=|/", "see 1=|:", "prophet |" + (char) ('l' + 256), "|\0", "limit 1|\0",
        "see |" + (char) ('1' + 256), "limit |\u0661", "|x limit 1", "limit 1|x;limit 2", "limit 0;forget 9;see 9=|"};
    for (String text : wrong) isNoProgram(lab, text.replace("|", ""), text.indexOf('|'));
  }

  private static void prefixesOf(ForecastLab lab, String program) {
    for (int length = 0; length < program.length(); length++) {
      String prefix = program.substring(0, length);
      enter(lab, prefix);
      Object got = Check.outcome(lab::run);
      boolean isProgram = Grammar.isProgram(prefix);
      Check.answers("39 prefix \"" + prefix + "\" is a program", isProgram, () -> got != BAD_ARGUMENT);
      if (!isProgram) Check.answers("39 proper prefix \"" + prefix + "\"", length, lab::errorPosition);
      // What a prefix has observed would let the prophets of a longer one fail.
      if (got instanceof Integer) lab.undo();
    }
  }

  private static void promise39Stays() {
    ForecastLab lab = new ForecastLab();
    enter(lab, "limit");
    Check.answers("39 run", BAD_ARGUMENT, lab::run);
    lab.save();
    lab.setLimit(4);
    enter(lab, "limit 7");
    lab.run();
    Check.answers("39 stays after a program", 5, lab::errorPosition);
    lab.undo();
    Check.answers("39 stays after undo", 5, lab::errorPosition);
    lab.restore();
    Check.answers("39 stays after restore", 5, lab::errorPosition);
    enter(lab, "li");
    Check.answers("39 run", BAD_ARGUMENT, lab::run);
    Check.answers("39 the latest", 2, lab::errorPosition);
  }

  private static void promise40() {
    ForecastLab lab = new ForecastLab();
    Check.fails(lab, "40 none yet", NO_ELEMENT, lab::failedCommand);
    enter(lab, "limit");
    Check.answers("40 no program", BAD_ARGUMENT, lab::run);
    Check.fails(lab, "40 no command failed", NO_ELEMENT, lab::failedCommand);
    enter(lab, "limit 3;limit 0");
    Check.answers("40 fails", FAILED, lab::run);
    Check.answers("40 recorded", 1, lab::failedCommand);
    lab.save();
    lab.setLimit(4);
    runs(lab, "limit 7", 1);
    isNoProgram(lab, "limi", 4);
    lab.undo();
    Check.answers("40 stays", 1, lab::failedCommand);
    lab.restore();
    Check.answers("40 stays after restore", 1, lab::failedCommand);
    enter(lab, "limit 0");
    Check.answers("40 fails", FAILED, lab::run);
    Check.answers("40 the latest", 0, lab::failedCommand);
    enter(lab, "see 0=1,2,3,4;limit 2;see 4=1");
    Check.answers("40 fails", FAILED, lab::run);
    Check.answers("40 counts commands, not calls", 2, lab::failedCommand);
  }
}
