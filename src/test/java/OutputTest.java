/** Promises 34 to 36: the output line. */
public final class OutputTest extends Check {
  public static void main(String[] args) {
    runAll(OutputTest.class);
  }

  private static void writesSeries(Lab lab, int series, String due) {
    answers(due.length(), () -> lab.writeSeries(series));
    same(due, View.lineOf(lab));
  }

  private static void writesProphets(Lab lab, String due) {
    answers(due.length(), lab::writeProphets);
    same(due, View.lineOf(lab));
  }

  // ---- 34: writeSeries

  @Says({"for each value a blank, the value, and \"!\" if it is an outlier; for example \"0: 5 5 5 6 5 40!\"",
      "Returns the length of the line."})
  static void promise34TheExampleOfTheDocument() {
    writesSeries(new Lab().see(0, 5, 5, 5, 6, 5, 40), 0, "0: 5 5 5 6 5 40!");
  }

  @Says({"Writes a series to the output line", "its number, \":\"", "`series`: the series"})
  static void promise34AnEmptySeriesIsItsNumberAndAColon() {
    Lab lab = new Lab();
    for (int series = 0; series < 4; series++) writesSeries(lab, series, series + ":");
    lab.see(2, 5, 6);
    lab.forget(2);
    writesSeries(lab, 2, "2:");
  }

  @Says("for each value a blank, the value")
  static void promise34WritesValuesOfOneToThreeDigits() {
    writesSeries(new Lab().see(3, 0), 3, "3: 0");
    writesSeries(new Lab().see(3, 9, 10, 99, 100, 101), 3, "3: 9 10 99 100 101");
    writesSeries(new Lab().see(1, 999, 990, 909, 900, 109, 110), 1, "1: 999 990 909 900 109 110!");
  }

  @Says("and \"!\" if it is an outlier")
  static void promise34MarksOutliersAtTheLimitOfNow() {
    Lab lab = new Lab().see(2, 7, 7, 7, 7, 7, 10);
    writesSeries(lab, 2, "2: 7 7 7 7 7 10");
    lab.setLimit(2);
    writesSeries(lab, 2, "2: 7 7 7 7 7 10!");
    lab.see(2, 7);
    writesSeries(lab, 2, "2: 7 7 7 7 7 10! 7");
    lab.setLimit(3);
    writesSeries(lab, 2, "2: 7 7 7 7 7 10 7");
  }

  @Says("and \"!\" if it is an outlier")
  static void promise34MarksNoneOfTheFirstFiveDays() {
    writesSeries(new Lab().see(0, 1, 999, 1, 1, 999), 0, "0: 1 999 1 1 999");
    writesSeries(new Lab().see(0, 1, 999, 1, 1, 999, 999), 0, "0: 1 999 1 1 999 999!");
  }

  @Says({"for each value a blank, the value, and \"!\" if it is an outlier", "Returns the length of the line."})
  static void promise34TheLongestLine() {
    Lab lab = new Lab();
    lab.setLimit(9);
    StringBuilder due = new StringBuilder("1:");
    for (int day = 0; day < 30; day++) {
      int value = day % 2 == 0 ? 100 : 999;
      lab.observe(1, value);
      due.append(' ').append(value).append(day >= 5 ? "!" : "");
    }
    same(147, due.length());
    writesSeries(lab, 1, due.toString());
  }

  @Says("which replaces its old content")
  static void promise34ReplacesALongerLine() {
    Lab lab = new Lab().prophets("m4 d5 s6").see(0, 5, 15, 25);
    lab.writeProphets();
    writesSeries(lab, 0, "0: 5 15 25");
    writesSeries(lab, 1, "1:");
    refuses(lab, NO_INDEX, () -> lab.charAt(2));
    writesSeries(lab, 0, "0: 5 15 25");
  }

  @Says("Throws `IndexOutOfBoundsException` if there is no such series")
  static void promise34RefusesTheSeriesMinus1And4() {
    Lab lab = new Lab().see(3, 7, 8);
    refusesNoSuchSeries(lab, lab::writeSeries);
    lab.writeSeries(3);
    refusesNoSuchSeries(lab, lab::writeSeries);
    same("3: 7 8", View.lineOf(lab));
  }

  // ---- 35: writeProphets

  @Says("for example \"l=3 m4=0\"")
  static void promise35TheExampleOfTheDocument() {
    writesProphets(new Lab().prophets("l1 m4").seeTimes(2, 4, 5), "l=3 m4=0");
  }

  @Says({"The line is empty if there are no prophets.", "Returns the length of the line."})
  static void promise35IsEmptyWithoutProphets() {
    Lab lab = new Lab();
    writesProphets(lab, "");
    refuses(lab, NO_INDEX, () -> lab.charAt(0));
    lab.see(1, 2, 3);
    lab.writeSeries(1);
    writesProphets(lab, "");
    refuses(lab, NO_INDEX, () -> lab.charAt(0));
  }

  @Says("the parameter if the kind is m, d or s")
  static void promise35WritesParametersOfMDAndS() {
    writesProphets(new Lab().prophets("l1"), "l=0");
    writesProphets(new Lab().prophets("t9"), "t=0");
    writesProphets(new Lab().prophets("m1"), "m1=0");
    writesProphets(new Lab().prophets("d9"), "d9=0");
    writesProphets(new Lab().prophets("s5"), "s5=0");
    writesProphets(new Lab().prophets("t1 l9 m9 d1 s9"), "t=0 l=0 m9=0 d1=0 s9=0");
  }

  @Says({"Writes the prophets to the output line", "for each prophet the kind", "with a blank between two"})
  static void promise35WritesEightProphets() {
    Lab lab = new Lab().prophets("l1 m2 d3 t4 s5 m6 d7 s8");
    writesProphets(lab, "l=0 m2=0 d3=0 t=0 s5=0 m6=0 d7=0 s8=0");
    lab.undo();
    writesProphets(lab, "l=0 m2=0 d3=0 t=0 s5=0 m6=0 d7=0");
  }

  @Says("and the sum of the points for all series")
  static void promise35WritesSumsFrom0To116() {
    Lab lab = new Lab().prophets("l1 m4");
    for (int series = 0; series < 4; series++) {
      lab.seeTimes(series, 30, 5);
      writesProphets(lab, "l=" + 29 * (series + 1) + " m4=0");
    }
    lab.forget(0);
    lab.seeTimes(0, 14, 5);
    writesProphets(lab, "l=100 m4=0");
    lab.undo();
    writesProphets(lab, "l=99 m4=0");
    lab.forget(0);
    lab.forget(1);
    lab.forget(2);
    lab.forget(3);
    lab.seeTimes(1, 10, 7);
    writesProphets(lab, "l=9 m4=0");
    lab.see(1, 7);
    writesProphets(lab, "l=10 m4=0");
  }

  @Says("which replaces its old content")
  static void promise35ReplacesALongerLine() {
    Lab lab = new Lab().prophets("l1").see(0, 100, 200, 300);
    lab.writeSeries(0);
    writesProphets(lab, "l=2");
    refuses(lab, NO_INDEX, () -> lab.charAt(3));
  }

  // ---- 36: charAt

  @Says("which is initially empty")
  static void promise36IsInitiallyEmpty() {
    Lab lab = new Lab();
    for (int index : new int[] {0, 1, -1, Integer.MIN_VALUE, Integer.MAX_VALUE}) {
      refuses(lab, NO_INDEX, () -> lab.charAt(index));
    }
  }

  @Says({"Returns a character of the output line", "the index, counted from 0", "Returns the character."})
  static void promise36AnswersTheFirstAndTheLastCharacter() {
    Lab lab = new Lab().see(1, 7);
    lab.writeSeries(1);
    answers('1', () -> lab.charAt(0));
    answers(':', () -> lab.charAt(1));
    answers(' ', () -> lab.charAt(2));
    answers('7', () -> lab.charAt(3));
  }

  @Says("if the index is negative")
  static void promise36RefusesANegativeIndex() {
    Lab lab = new Lab().see(1, 7);
    lab.writeSeries(1);
    refuses(lab, NO_INDEX, () -> lab.charAt(-1));
    refuses(lab, NO_INDEX, () -> lab.charAt(Integer.MIN_VALUE));
  }

  @Says("or not less than the length")
  static void promise36RefusesTheLength() {
    Lab lab = new Lab().see(1, 7).see(2, 100, 200, 300);
    lab.writeSeries(2);
    for (int index : new int[] {14, 15, 152, Integer.MAX_VALUE}) refuses(lab, NO_INDEX, () -> lab.charAt(index));
    answers('0', () -> lab.charAt(13));
    lab.writeSeries(1);
    for (int index : new int[] {4, 5, 13, 152, Integer.MAX_VALUE}) refuses(lab, NO_INDEX, () -> lab.charAt(index));
    answers('7', () -> lab.charAt(3));
  }

  @Says("or not less than the length")
  static void promise36RefusesTheLengthOfTheLongestLine() {
    Lab lab = new Lab();
    for (int day = 0; day < 30; day++) lab.observe(3, day % 2 == 0 ? 100 : 999);
    answers(147, () -> lab.writeSeries(3));
    answers('!', () -> lab.charAt(146));
    refuses(lab, NO_INDEX, () -> lab.charAt(147));
    refuses(lab, NO_INDEX, () -> lab.charAt(148));
  }

  @Says("Returns a character of the output line")
  static void promise36TheLineStaysUntilAnotherIsWritten() {
    Lab lab = new Lab().prophets("l1").see(1, 7);
    lab.writeSeries(1);
    lab.see(1, 8);
    lab.setLimit(5);
    lab.forget(1);
    lab.undo();
    lab.enter("limit 7");
    lab.run();
    lab.save();
    lab.restore();
    same("1: 7", View.lineOf(lab));
    answers(NO_INDEX, () -> lab.writeSeries(4));
    same("1: 7", View.lineOf(lab));
    lab.writeProphets();
    same("l=1", View.lineOf(lab));
  }
}
