/** Promises 37 to 40: the program buffer, programs and their errors. */
public final class ProgramTest extends Check {
  private static final String LONGEST = "see 0=1,2,3,4,5,6,7,8,9,0,1,2,3,4,5,6,7,8,9,0,1,2,3,4,5,6,78";

  public static void main(String[] args) {
    runAll(ProgramTest.class);
  }

  private static void runs(Lab lab, String text, int commands) {
    answers(commands, lab.enter(text)::run);
    emptyBuffer(lab);
  }

  /** No program: the exception, the position, and nothing else is changed. */
  private static void isNoProgram(Lab lab, String text, int position) {
    String before = View.besideTheProgram(lab);
    Object failedCommand = outcome(lab::failedCommand);
    answers(BAD_ARGUMENT, lab.enter(text)::run);
    answers(position, lab::errorPosition);
    answers(failedCommand, lab::failedCommand);
    same(before, View.besideTheProgram(lab));
    emptyBuffer(lab);
  }

  /** A program whose command fails: the exception, the command, and nothing else is changed. */
  private static void failsAt(Lab lab, String text, int command) {
    String before = View.besideTheProgram(lab);
    Object errorPosition = outcome(lab::errorPosition);
    answers(FAILED, lab.enter(text)::run);
    answers(command, lab::failedCommand);
    answers(errorPosition, lab::errorPosition);
    same(before, View.besideTheProgram(lab));
    emptyBuffer(lab);
  }

  private static void emptyBuffer(Lab lab) {
    Lab again = lab.again();
    answers(1, () -> again.type('#'));
    answers(BAD_ARGUMENT, again::run);
    answers(0, again::errorPosition);
  }

  private static String prophetsOf(Lab lab) {
    StringBuilder prophets = new StringBuilder();
    for (int prophet = 0; prophet < lab.prophets(); prophet++) {
      prophets.append(lab.kind(prophet)).append(lab.parameter(prophet)).append(' ');
    }
    return prophets.toString().trim();
  }

  private static String valuesOf(Lab lab, int series) {
    StringBuilder values = new StringBuilder();
    for (int day = 0; day < lab.days(series); day++) values.append(lab.value(series, day)).append(' ');
    return values.toString().trim();
  }

  /** Whole commands of this length together, from 8 on, with the semicolon behind them. */
  private static String commandsOf(int length) {
    StringBuilder text = new StringBuilder(length % 2 == 0 ? "see 0=1" : "see 0=11");
    while (text.length() + 1 < length) text.append(",1");
    return text.append(';').toString();
  }

  // ---- 37: type

  @Says({"Appends a character to the program buffer.", "Returns the number of characters in the buffer afterwards."})
  static void promise37CountsFrom1To60() {
    Lab lab = new Lab();
    for (int typed = 1; typed <= 60; typed++) {
      int length = typed;
      answers(length, () -> lab.type('x'));
    }
  }

  @Says("any character")
  static void promise37TakesAnyCharacter() {
    char[] any = {'\0', '\uffff', '\u1234', '\ud800', '\n', '\u007f', '\u0080', '\u00ff', '\u0100', ';', '='};
    for (char character : any) {
      Lab lab = new Lab();
      answers(1, () -> lab.type(character));
      answers(2, () -> lab.type('p'));
      answers(BAD_ARGUMENT, lab::run);
      answers(0, lab::errorPosition);
    }
  }

  @Says("Throws `IllegalStateException` if the buffer contains 60 characters")
  static void promise37RefusesTheSixtyFirstCharacter() {
    Lab lab = new Lab().enter(LONGEST);
    refuses(lab, BAD_STATE, () -> lab.type('9'));
    refuses(lab, BAD_STATE, () -> lab.type('\0'));
    answers(1, lab::run);
    same("78", valuesOf(lab, 0).split(" ")[26]);
    same(27, lab.days(0));
  }

  @Says("Throws `IllegalStateException` if the buffer contains 60 characters")
  static void promise37TakesCharactersAgainBehindARun() {
    Lab lab = new Lab();
    for (int run = 0; run < 3; run++) {
      for (int typed = 0; typed < 60; typed++) lab.type('x');
      answers(BAD_STATE, () -> lab.type('x'));
      answers(BAD_ARGUMENT, lab::run);
    }
    answers(1, () -> lab.type('x'));
  }

  @Says("The state that is undone, saved and restored consists of everything except the program buffer")
  static void promise37TheBufferStaysBehindUndoAndRestore() {
    Lab lab = new Lab().enter("lim");
    lab.save();
    lab.setLimit(9);
    lab.enter("it ");
    lab.undo();
    answers(7, () -> lab.type('4'));
    lab.restore();
    answers(1, lab::run);
    answers(4, lab::limit);
  }

  // ---- 38: run

  @Says({"Parses the program buffer and executes the commands in order", "Returns the number of commands.",
      "program = command { \";\" command", "in which braces mean zero or more repetitions"})
  static void promise38AnswersTheNumberOfCommands() {
    Lab lab = new Lab();
    runs(lab, "limit 4", 1);
    runs(lab, "limit 5;limit 6", 2);
    answers(6, lab::limit);
    runs(lab, "limit 1;limit 2;limit 3;limit 4;limit 5;limit 6;limit 7", 7);
    answers(7, lab::limit);
    runs(lab, "see 0=1,2,3,4,5,6;see 1=7", 2);
  }

  @Says("Parses the program buffer and executes the commands in order")
  static void promise38ExecutesInOrder() {
    Lab lab = new Lab();
    runs(lab, "see 1=5;see 2=6,7;limit 1;see 3=8;forget 2;see 1=9", 6);
    same("5 9", valuesOf(lab, 1));
    same("", valuesOf(lab, 2));
    same("8", valuesOf(lab, 3));
    runs(lab, "see 1=1;forget 1;see 1=2,3;forget 1;see 1=4", 5);
    same("4", valuesOf(lab, 1));
  }

  @Says({"addProphet(kind, parameter), where the parameter is 1 for the kinds \"l\" and \"t\"",
      "\"prophet \" ( \"l\" | \"t\" | ( \"m\" | \"d\" | \"s\" ) digit )"})
  static void promise38AddsProphets() {
    Lab lab = new Lab();
    runs(lab, "prophet l;prophet t;prophet m1;prophet d9;prophet s5", 5);
    same("l1 t1 m1 d9 s5", prophetsOf(lab));
  }

  @Says("to one call of observe(series, value) for each number")
  static void promise38ObservesEachNumber() {
    Lab lab = new Lab().prophets("l1");
    runs(lab, "see 0=1,22,333,0,00,007,999", 1);
    same("1 22 333 0 0 7 999", valuesOf(lab, 0));
    answers(6, () -> lab.errors(0, 0));
    runs(lab, "see 3=5;see 3=6;see 3=7,8", 3);
    same("5 6 7 8", valuesOf(lab, 3));
    answers(3.0, () -> lab.errorSum(0, 3));
    answers(3, () -> lab.points(0, 3));
    answers(true, lab::isConsistent);
  }

  @Says("number = digit [ digit [ digit ] ]")
  static void promise38TakesNumbersFrom0To999() {
    Lab lab = new Lab();
    runs(lab, "see 2=0,000,9,09,009,10,99,099,100,999", 1);
    same("0 0 9 9 9 10 99 99 100 999", valuesOf(lab, 2));
  }

  @Says("to setLimit(limit) and to forget(series)")
  static void promise38SetsTheLimitAndForgets() {
    Lab lab = new Lab().see(0, 1).see(3, 2, 3);
    runs(lab, "limit 1", 1);
    answers(1, lab::limit);
    runs(lab, "limit 9", 1);
    answers(9, lab::limit);
    runs(lab, "forget 3", 1);
    answers(0, () -> lab.days(3));
    answers(1, () -> lab.days(0));
    runs(lab, "forget 0", 1);
    runs(lab, "forget 1", 1);
    answers(0, () -> lab.days(0));
  }

  @Says("Parses the program buffer")
  static void promise38ParsesSixtyCharacters() {
    same(60, LONGEST.length());
    Lab lab = new Lab();
    runs(lab, LONGEST, 1);
    same("1 2 3 4 5 6 7 8 9 0 1 2 3 4 5 6 7 8 9 0 1 2 3 4 5 6 78", valuesOf(lab, 0));
    String eight = "limit 4;limit 5;see 1=1,2;see 2=3,4;see 3=5,6;forget 3;see 3";
    same(60, eight.length());
    isNoProgram(lab, eight, 60);
  }

  @Says("Parses the program buffer and executes the commands in order")
  static void promise38RunsAFullBufferThatEndsInEachCommand() {
    for (String last : new String[] {"limit 9", "forget 2", "see 3=1", "see 3=12", "see 3=123", "see 3=1,2"}) {
      String text = commandsOf(60 - last.length()) + last;
      same(60, text.length());
      runs(new Lab(), text, 2);
    }
    for (String last : new String[] {"prophet l", "prophet t", "prophet m3"}) {
      String text = commandsOf(51 - last.length()) + "forget 0;" + last;
      same(60, text.length());
      runs(new Lab(), text, 3);
    }
  }

  @Says("Throws `IllegalArgumentException` if the text is not a program; its error position is recorded")
  static void promise38RefusesAnEmptyBuffer() {
    Lab lab = new Lab().prophets("l1").see(0, 1, 2);
    isNoProgram(lab, "", 0);
    runs(lab, "limit 5", 1);
    isNoProgram(lab, "", 0);
  }

  @Says("Throws `IllegalArgumentException` if the text is not a program; its error position is recorded")
  static void promise38ExecutesNothingOfATextThatIsNoProgram() {
    Lab lab = new Lab().prophets("l1").see(1, 4);
    lab.writeSeries(1);
    lab.save();
    isNoProgram(lab, "limit 5;see 0=1,2,3;", 20);
    isNoProgram(lab, "see 0=1,2,3;limit x", 18);
    isNoProgram(lab, "forget 1;forget 10", 17);
    runs(lab, "limit 6", 1);
    same("", valuesOf(lab, 0));
    same("4", valuesOf(lab, 1));
  }

  @Says({"Throws `UnsupportedOperationException` if a command fails, that is, if a method for it throws an exception",
      "the number of this command, counted from 0, is recorded"})
  static void promise38ProphetFailsOfParameter0() {
    Lab lab = new Lab();
    failsAt(lab, "prophet m0", 0);
    failsAt(lab, "prophet d0", 0);
    failsAt(lab, "prophet s0", 0);
    failsAt(lab, "prophet l;prophet t;prophet s0", 2);
    runs(lab, "prophet m1;prophet d9", 2);
    same("m1 d9", prophetsOf(lab));
  }

  @Says("if a command fails, that is, if a method for it throws an exception")
  static void promise38ProphetFailsOfANinth() {
    Lab lab = new Lab().prophets("m1 m2 m3 m4 m5 m6");
    failsAt(lab, "prophet l;prophet t;prophet l", 2);
    runs(lab, "prophet l;prophet t", 2);
    same("m1 m2 m3 m4 m5 m6 l1 t1", prophetsOf(lab));
    failsAt(lab, "limit 4;prophet l;limit 5", 1);
    failsAt(lab, "prophet t", 0);
  }

  @Says("if a command fails, that is, if a method for it throws an exception")
  static void promise38ProphetFailsWhenASeriesHasValues() {
    Lab lab = new Lab().prophets("s5");
    for (int series = 0; series < 4; series++) failsAt(lab, "see " + series + "=1;prophet l", 1);
    runs(lab, "see 0=4;forget 0;prophet d1", 3);
    same("s5 d1", prophetsOf(lab));
    lab.see(2, 8);
    failsAt(lab, "prophet l", 0);
    runs(lab, "forget 2;prophet l;see 2=9", 3);
    same("s5 d1 l1", prophetsOf(lab));
  }

  @Says("if a command fails, that is, if a method for it throws an exception")
  static void promise38SeeAndForgetFailOfTheSeries4To9() {
    for (int series = 4; series <= 9; series++) {
      Lab lab = new Lab().see(3, 5);
      failsAt(lab, "see " + series + "=1", 0);
      failsAt(lab, "forget " + series, 0);
      failsAt(lab, "see 0=1,2;see " + series + "=1;see 1=1", 1);
      failsAt(lab, "limit 5;see 3=1;forget " + series, 2);
    }
    runs(new Lab(), "see 0=1;see 3=2;forget 0;forget 3", 4);
  }

  @Says("if a command fails, that is, if a method for it throws an exception")
  static void promise38SeeFailsOfTheThirtyFirstValue() {
    Lab lab = new Lab().prophets("l1").seeTimes(2, 24, 7);
    failsAt(lab, "limit 7;see 2=1,2,3,4,5,6,7;see 3=5", 1);
    runs(lab, "limit 7;see 2=1,2,3,4,5,6;see 3=5", 3);
    answers(30, () -> lab.days(2));
    failsAt(lab, "see 2=1", 0);
    failsAt(lab, "see 0=4;see 2=1", 1);
    runs(lab, "forget 2;see 2=1", 2);
    same("1", valuesOf(lab, 2));
  }

  @Says("if a command fails, that is, if a method for it throws an exception")
  static void promise38LimitFailsOf0() {
    Lab lab = new Lab();
    failsAt(lab, "limit 0", 0);
    failsAt(lab, "limit 5;limit 0", 1);
    failsAt(lab, "limit 1;limit 2;limit 3;limit 4;limit 5;limit 6;limit 0", 6);
    answers(3, lab::limit);
    runs(lab, "limit 1;limit 9", 2);
    answers(9, lab::limit);
  }

  @Says({"either all of them or, if one of them fails, none", "A method that throws an exception changes nothing"})
  static void promise38ExecutesNoneIfTheLastFails() {
    Lab lab = new Lab().prophets("l1 s5").see(1, 10, 20, 30);
    lab.writeProphets();
    lab.save();
    lab.setLimit(5);
    failsAt(lab, "forget 1;prophet t;see 1=7,8;limit 9;limit 0", 4);
    failsAt(lab, "see 0=1,2,3;see 1=40;forget 1;see 4=1", 3);
    runs(lab, "see 1=40", 1);
    same("10 20 30 40", valuesOf(lab, 1));
    answers(30.0, () -> lab.errorSum(0, 1));
  }

  @Says("The buffer is empty afterwards in every case.")
  static void promise38TheBufferIsEmptyAfterwards() {
    for (String text : new String[] {"limit 5", "limit 0", "limit", "x", "", LONGEST}) {
      Lab lab = new Lab().enter(text);
      outcome(lab::run);
      Lab again = lab.again();
      answers(1, () -> again.type('l'));
      answers(BAD_ARGUMENT, lab::run);
      answers(0, lab::errorPosition);
      answers(1, lab.enter("limit 2")::run);
    }
  }

  @Says("The buffer is empty afterwards in every case.")
  static void promise38NothingOfAnOlderTextIsLeft() {
    Lab lab = new Lab();
    runs(lab, "see 0=1,2,3,4", 1);
    runs(lab, "limit 5", 1);
    same("1 2 3 4", valuesOf(lab, 0));
    isNoProgram(lab, "see 0=", 6);
    isNoProgram(lab, "s", 1);
    failsAt(lab, "see 0=5;limit 0", 1);
    runs(lab, "limit 4", 1);
    same("1 2 3 4", valuesOf(lab, 0));
  }

  @Says("A change is a successful call of addProphet, observe, setLimit, forget or run.")
  static void promise38IsOneChange() {
    Lab lab = new Lab();
    String before = View.stateOf(lab);
    runs(lab, "prophet l;see 0=1,2,3;limit 8", 3);
    answers(0, lab::undo);
    same(before, View.stateOf(lab));
    refuses(lab, BAD_STATE, lab::undo);
  }

  @Says("except that run() empties the program buffer and records a syntax error or a failed command")
  static void promise38ARefusedRunIsNoChange() {
    Lab lab = new Lab();
    for (int limit = 1; limit <= 9; limit++) lab.setLimit(limit);
    failsAt(lab, "see 0=1;limit 0", 1);
    isNoProgram(lab, "limit", 5);
    for (int left = 7; left >= 0; left--) {
      int due = left;
      answers(due, lab::undo);
      answers(due + 1, lab::limit);
    }
    refuses(lab, BAD_STATE, lab::undo);
    failsAt(lab, "see 0=1;limit 0", 1);
    refuses(lab, BAD_STATE, lab::undo);
  }

  // ---- 39: errorPosition

  @Says("Throws `NoSuchElementException` if there was no such text")
  static void promise39RefusesBeforeTheFirstError() {
    Lab lab = new Lab();
    refuses(lab, NO_ELEMENT, lab::errorPosition);
    lab.enter("li");
    refuses(lab, NO_ELEMENT, lab::errorPosition);
    lab.enter("mit 5").run();
    refuses(lab, NO_ELEMENT, lab::errorPosition);
    answers(FAILED, lab.enter("limit 0")::run);
    refuses(lab, NO_ELEMENT, lab::errorPosition);
    answers(BAD_ARGUMENT, lab::run);
    answers(0, lab::errorPosition);
  }

  @Says("or the length of the text if the text is a proper prefix of a program")
  static void promise39IsTheLengthOfAProperPrefix() {
    String[] programs = {"prophet l", "prophet t;limit 3", "prophet m3;prophet d9;prophet s1", "see 0=1;see 3=12,345",
        "see 1=1,22,333;forget 1;limit 9", "forget 2;see 2=000"};
    for (String program : programs) {
      for (int length = 0; length <= program.length(); length++) {
        String prefix = program.substring(0, length);
        Lab lab = new Lab().enter(prefix);
        Object got = outcome(lab::run);
        same(Grammar.isProgram(prefix), got != BAD_ARGUMENT);
        answers(Grammar.isProgram(prefix) ? NO_ELEMENT : length, lab::errorPosition);
      }
    }
  }

  @Says("or the length of the text if the text is a proper prefix of a program")
  static void promise39IsSixtyIfAFullBufferIsAProperPrefix() {
    String[] programs = {"prophet l", "prophet t", "prophet m3", "see 3=12,345", "limit 9", "forget 2"};
    for (String program : programs) {
      for (int length = 0; length < program.length(); length++) {
        String text = commandsOf(60 - length) + program.substring(0, length);
        if (Grammar.isProgram(text)) continue;
        Lab lab = new Lab().enter(text);
        refuses(lab, BAD_STATE, () -> lab.type('1'));
        isNoProgram(new Lab(), text, 60);
      }
    }
  }

  /** A bar stands before the first character at which no program can continue. */
  private static void continuesNot(String... texts) {
    for (String text : texts) {
      answers(text.indexOf('|'), () -> {
        Lab lab = new Lab().enter(text.replace("|", ""));
        return outcome(lab::run) == BAD_ARGUMENT ? lab.errorPosition() : "no error";
      });
    }
  }

  @Says({"is the index of the first character at which no program can continue", "Returns the error position."})
  static void promise39IsTheFirstCharacterThatCannotFollow() {
    continuesNot("|x", "|Prophet l", "| prophet l", "|;", "lim|t", "|1", "|=", "|\0", "|\uffff",
        "l|prophet l", "s|prophet", "f|see", "p|limit 1", "forg|ot", "see|e");
    continuesNot("|x limit 1", "limit 1|x;limit 2", "limit |x;limit y");
  }

  @Says("\"prophet \" ( \"l\" | \"t\" | ( \"m\" | \"d\" | \"s\" ) digit )")
  static void promise39InProphet() {
    continuesNot("prophet|s", "prophet|l", "prophet | l", "prophet |x", "prophet |k", "prophet |n", "prophet |L",
        "prophet |1", "prophet |;", "prophet l|1", "prophet l| ", "prophet t|9", "prophet t| ", "prophet m|;", "prophet m|m",
        "prophet m| ", "prophet d|-", "prophet d|/", "prophet s|:", "prophet s1|0", "prophet m0|0",
        "prophet |" + (char) ('l' + 256), "prophet m|" + (char) ('1' + 256));
  }

  @Says("\"see \" digit \"=\" number { \",\" number")
  static void promise39InSee() {
    continuesNot("see|=", "see |a", "see | 1", "see |=", "see 1|0", "see 1|:", "see 1| =", "see 1|;", "see 1=|,", "see 1=|;",
        "see 1=| 5", "see 1=|/", "see 1=|:", "see 1=|-1", "see 1=1;|;", "see 1=1,|;", "see 1=1,|,",
        "see 1=1,| 2", "see 1=12|a", "see 1=1| ,2", "see 1=1|=2", "see |" + (char) ('1' + 256));
  }

  @Says("number = digit [ digit [ digit ] ]")
  static void promise39AFourthDigit() {
    continuesNot("see 1=100|0", "see 1=000|0", "see 1=999|9", "see 1=1,2,333|3", "see 1=1,22,333|3,4", "see 1=123|/",
        "see 1=123|:");
    Lab lab = new Lab();
    runs(lab, "see 1=100,0", 1);
    same("100 0", valuesOf(lab, 1));
  }

  @Says({"\"limit \" digit", "\"forget \" digit"})
  static void promise39InLimitAndForget() {
    continuesNot("limit|1", "limit |x", "limit | 1", "limit |-1", "limit |/", "limit |:", "limit |;", "limit 1|0",
        "limit 1|,", "limit 1| ", "limit 1|\0", "limit |\u0661", "forget|0", "forget |-", "forget |/", "forget |:",
        "forget 1|2", "forget 1|:", "forget 1|=");
  }

  @Says("program = command { \";\" command")
  static void promise39BetweenCommands() {
    continuesNot("limit 1;|;", "limit 1;| ", "limit 1;|,", "limit 1;| limit 2", "limit 1|.limit 2", "limit 1;|x",
        "see 1=1;|1", "prophet l;|x", "limit 0;forget 9;see 9=|", "limit 1;limit 2;|",
        "limit 0;prophet |x");
  }

  @Says("Returns the recorded error position of the latest text that was not a program.")
  static void promise39IsOfTheLatestTextThatWasNoProgram() {
    Lab lab = new Lab();
    answers(BAD_ARGUMENT, lab.enter("limit")::run);
    answers(5, lab::errorPosition);
    runs(lab.again(), "limit 7", 1);
    lab.enter("limit 7").run();
    answers(5, lab::errorPosition);
    answers(FAILED, lab.enter("limit 0")::run);
    answers(5, lab::errorPosition);
    answers(BAD_ARGUMENT, lab.enter("li")::run);
    answers(2, lab::errorPosition);
    answers(BAD_ARGUMENT, lab::run);
    answers(0, lab::errorPosition);
  }

  @Says("The state that is undone, saved and restored consists of everything except the program buffer, the error position")
  static void promise39StaysBehindUndoAndRestore() {
    Lab lab = new Lab();
    lab.save();
    lab.setLimit(4);
    answers(BAD_ARGUMENT, lab.enter("limit")::run);
    lab.undo();
    answers(5, lab::errorPosition);
    lab.restore();
    answers(5, lab::errorPosition);
  }

  // ---- 40: failedCommand

  @Says("Throws `NoSuchElementException` if no command failed")
  static void promise40RefusesBeforeTheFirstFailure() {
    Lab lab = new Lab();
    refuses(lab, NO_ELEMENT, lab::failedCommand);
    lab.enter("limit 5").run();
    refuses(lab, NO_ELEMENT, lab::failedCommand);
    answers(BAD_ARGUMENT, lab.enter("limit 0;")::run);
    refuses(lab, NO_ELEMENT, lab::failedCommand);
    answers(BAD_ARGUMENT, () -> lab.setLimit(0));
    refuses(lab, NO_ELEMENT, lab::failedCommand);
    answers(FAILED, lab.enter("limit 0")::run);
    answers(0, lab::failedCommand);
  }

  @Says({"Returns the recorded number of the latest command that failed in a program.", "Returns the number of the command."})
  static void promise40CountsCommandsFrom0To6() {
    Lab lab = new Lab();
    StringBuilder text = new StringBuilder();
    for (int command = 0; command < 7; command++) {
      int due = command;
      answers(FAILED, lab.enter(text + "limit 0")::run);
      answers(due, lab::failedCommand);
      text.append("limit 5;");
    }
  }

  @Says("Returns the recorded number of the latest command that failed in a program.")
  static void promise40CountsCommandsNotCalls() {
    Lab lab = new Lab().seeTimes(0, 27, 5);
    answers(FAILED, lab.enter("see 1=1,2,3,4;limit 2;see 4=1")::run);
    answers(2, lab::failedCommand);
    answers(FAILED, lab.enter("see 1=1,2,3;see 0=1,2,3,4;limit 2")::run);
    answers(1, lab::failedCommand);
  }

  @Says("Returns the recorded number of the latest command that failed in a program.")
  static void promise40IsTheFirstThatFailsOfTheLatestProgram() {
    Lab lab = new Lab();
    answers(FAILED, lab.enter("limit 3;limit 0;limit 0")::run);
    answers(1, lab::failedCommand);
    lab.enter("limit 7").run();
    answers(1, lab::failedCommand);
    answers(BAD_ARGUMENT, lab.enter("limi")::run);
    answers(1, lab::failedCommand);
    answers(FAILED, lab.enter("forget 4;limit 0")::run);
    answers(0, lab::failedCommand);
  }

  @Says("the error position, the failed command and the output line")
  static void promise40StaysBehindUndoAndRestore() {
    Lab lab = new Lab();
    lab.save();
    lab.setLimit(4);
    answers(FAILED, lab.enter("limit 5;limit 0")::run);
    lab.undo();
    answers(1, lab::failedCommand);
    lab.restore();
    answers(1, lab::failedCommand);
  }
}
