/** Promises 1 to 5: a new laboratory, and the calls that change it. */
public final class ChangeTest extends Check {
  public static void main(String[] args) {
    runAll(ChangeTest.class);
  }

  // ---- 1: a new object

  @Says("Creates a laboratory without prophets and values.")
  static void promise01HasNoProphets() {
    Lab lab = new Lab();
    answers(0, lab::prophets);
    refuses(lab, NO_INDEX, () -> lab.kind(0));
    refuses(lab, NO_INDEX, () -> lab.meanError(0));
    refuses(lab, NO_ELEMENT, () -> lab.prophetByPoints(0));
    refuses(lab, NO_ELEMENT, lab::bestProphet);
  }

  @Says({"Creates a laboratory without prophets and values.", "initially it has none"})
  static void promise01HasNoValues() {
    Lab lab = new Lab();
    for (int series = 0; series < 4; series++) {
      int s = series;
      answers(0, () -> lab.days(s));
      refuses(lab, NO_ELEMENT, () -> lab.value(s, 0));
    }
    refuses(lab, NO_QUOTIENT, lab::outlierShare);
  }

  @Says("Creates a laboratory without prophets and values.")
  static void promise01SharesNothingWithAnother() {
    Lab first = new Lab().prophets("l1").see(0, 1, 2).enter("limit 5");
    first.setLimit(9);
    first.writeSeries(0);
    first.save();
    String before = View.of(first);
    Lab second = new Lab();
    answers(0, second::prophets);
    answers(0, () -> second.days(0));
    answers(3, second::limit);
    answers(1, () -> second.type('x'));
    refuses(second, NO_INDEX, () -> second.charAt(0));
    refuses(second, BAD_STATE, second::undo);
    refuses(second, BAD_STATE, second::restore);
    same(before, View.of(first));
  }

  @Says("An object is used for at most 512 calls")
  static void promise01Answers512Calls() {
    Lab lab = new Lab();
    for (int call = 1; call <= 510; call++) lab.setLimit(1 + call % 9);
    answers(7, lab::undo);
    answers(1 + 509 % 9, lab::limit);
    same(512, lab.calls());
  }

  // ---- 2: addProphet

  @Says({"Adds a prophet.", "Returns the number of the prophet.", "numbered from 0 in the order in which they were added"})
  static void promise02NumbersTheProphetsInOrder() {
    Lab lab = new Lab();
    String kinds = "lmdtslmd";
    for (int number = 0; number < 8; number++) {
      int n = number;
      answers(n, () -> lab.addProphet(kinds.charAt(n), n + 1));
      answers(n + 1, lab::prophets);
      answers(kinds.charAt(n), () -> lab.kind(n));
      answers(n + 1, () -> lab.parameter(n));
    }
  }

  @Says({"the kind, one of the characters l, m, d, t and s", "A prophet has a kind and a parameter from 1 to 9."})
  static void promise02TakesEachKind() {
    for (char kind : "lmdts".toCharArray()) {
      Lab lab = new Lab();
      answers(0, () -> lab.addProphet(kind, 5));
      answers(kind, () -> lab.kind(0));
    }
  }

  @Says("Throws `IllegalArgumentException` if there is no such kind")
  static void promise02RefusesEveryOtherKind() {
    for (int code = 0; code < 65536; code += code < 600 ? 1 : 127) {
      char kind = (char) code;
      if ("lmdts".indexOf(kind) < 0) answers(BAD_ARGUMENT, () -> new Lab().addProphet(kind, 5));
    }
    answers(BAD_ARGUMENT, () -> new Lab().addProphet('\uffff', 5));
  }

  @Says("Throws `IllegalArgumentException` if there is no such kind")
  static void promise02AnUnknownKindChangesNothing() {
    Lab lab = new Lab().prophets("l1 s2");
    for (char kind : new char[] {'k', 'n', 'c', 'e', 'r', 'u', 'L', 'S', ' ', '\0', (char) ('l' + 256), '\uffff'}) {
      refuses(lab, BAD_ARGUMENT, () -> lab.addProphet(kind, 5));
    }
    answers(2, () -> lab.addProphet('m', 5));
  }

  @Says({"the parameter, 1 to 9", "A prophet has a kind and a parameter from 1 to 9."})
  static void promise02TakesTheParameters1To9() {
    for (char kind : "lmdts".toCharArray()) {
      for (int parameter = 1; parameter <= 9; parameter++) {
        int p = parameter;
        Lab lab = new Lab();
        answers(0, () -> lab.addProphet(kind, p));
        answers(p, () -> lab.parameter(0));
      }
    }
  }

  @Says("or the parameter is out of range")
  static void promise02RefusesTheParameters0And10() {
    Lab lab = new Lab();
    for (char kind : "lmdts".toCharArray()) {
      for (int parameter : new int[] {0, 10, -1, 11, Integer.MIN_VALUE, Integer.MAX_VALUE}) {
        refuses(lab, BAD_ARGUMENT, () -> lab.addProphet(kind, parameter));
      }
    }
    answers(0, () -> lab.addProphet('l', 1));
  }

  @Says("There are at most 8 prophets")
  static void promise02TakesTheEighthProphet() {
    Lab lab = new Lab().prophets("l1 m2 d3 t4 s5 l6 m7");
    answers(7, () -> lab.addProphet('d', 8));
    answers(8, lab::prophets);
    answers('d', () -> lab.kind(7));
  }

  @Says("Throws `IllegalStateException` if there are 8 prophets")
  static void promise02RefusesTheNinthProphet() {
    Lab lab = new Lab().prophets("l1 m2 d3 t4 s5 l6 m7 d8");
    refuses(lab, BAD_STATE, () -> lab.addProphet('t', 9));
    refuses(lab, BAD_STATE, () -> lab.addProphet('l', 1));
    answers(7, lab::undo);
    answers(7, () -> lab.addProphet('t', 9));
    answers('t', () -> lab.kind(7));
  }

  @Says("or a series has values")
  static void promise02RefusesWhenASeriesHasAValue() {
    for (int series = 0; series < 4; series++) {
      Lab lab = new Lab().prophets("l1").see(series, 0);
      refuses(lab, BAD_STATE, () -> lab.addProphet('m', 2));
      lab.forget(series);
      answers(1, () -> lab.addProphet('m', 2));
    }
  }

  @Says("or a series has values")
  static void promise02TakesOneAgainWhenTheLastValueIsUndone() {
    Lab lab = new Lab().see(3, 7);
    refuses(lab, BAD_STATE, () -> lab.addProphet('t', 1));
    lab.undo();
    answers(0, () -> lab.addProphet('t', 1));
  }

  @Says("or a series has values")
  static void promise02RefusesUntilAllSeriesAreEmpty() {
    Lab lab = new Lab().see(0, 1).see(1, 2).see(2, 3).see(3, 4);
    for (int series = 0; series < 4; series++) {
      refuses(lab, BAD_STATE, () -> lab.addProphet('l', 1));
      lab.forget(series);
    }
    answers(0, () -> lab.addProphet('l', 1));
  }

  @Says("the exception that is listed first is thrown")
  static void promise02TestsTheArgumentsBeforeTheState() {
    Lab full = new Lab().prophets("l1 m2 d3 t4 s5 l6 m7 d8");
    Lab used = new Lab().see(2, 5);
    Lab both = new Lab().prophets("l1 m2 d3 t4 s5 l6 m7 d8").see(1, 5);
    for (Lab lab : new Lab[] {full, used, both}) {
      refuses(lab, BAD_ARGUMENT, () -> lab.addProphet('x', 1));
      refuses(lab, BAD_ARGUMENT, () -> lab.addProphet('l', 0));
      refuses(lab, BAD_ARGUMENT, () -> lab.addProphet('l', 10));
      refuses(lab, BAD_ARGUMENT, () -> lab.addProphet('x', 0));
      refuses(lab, BAD_STATE, () -> lab.addProphet('l', 9));
    }
  }

  @Says("Adds a prophet.")
  static void promise02ANewProphetHasNoScores() {
    for (int series = 0; series < 4; series++) {
      int s = series;
      Lab lab = new Lab().prophets("l1").see(s, 5, 9, 9);
      lab.forget(s);
      lab.undo();
      lab.forget(s);
      for (int undone = 0; undone < 5; undone++) lab.undo();
      answers(0, lab::prophets);
      lab.prophets("s4");
      answers(0, () -> lab.errors(0, s));
      answers(0.0, () -> lab.errorSum(0, s));
      answers(0, () -> lab.points(0, s));
    }
  }

  // ---- 3: observe

  @Says({"`series`: the series", "There are the series 0 to 3."})
  static void promise03TakesTheSeries0To3() {
    Lab lab = new Lab();
    for (int series = 0; series < 4; series++) {
      int s = series;
      answers(0, () -> lab.observe(s, 10 + s));
    }
    for (int series = 0; series < 4; series++) {
      int s = series;
      answers(10 + s, () -> lab.value(s, 0));
    }
  }

  @Says("Throws `IndexOutOfBoundsException` if there is no such series")
  static void promise03RefusesTheSeriesMinus1And4() {
    Lab lab = new Lab().see(0, 1).see(3, 2);
    refusesNoSuchSeries(lab, series -> lab.observe(series, 5));
    answers(1, () -> lab.observe(3, 5));
  }

  @Says("the value, 0 to 999")
  static void promise03TakesTheValues0And999() {
    Lab lab = new Lab();
    answers(0, () -> lab.observe(1, 0));
    answers(1, () -> lab.observe(1, 999));
    answers(0, () -> lab.value(1, 0));
    answers(999, () -> lab.value(1, 1));
  }

  @Says("Throws `IllegalArgumentException` if the value is out of range")
  static void promise03RefusesTheValuesMinus1And1000() {
    Lab lab = new Lab().prophets("l1").see(1, 5, 6);
    for (int value : new int[] {-1, 1000, -999, 1001, Integer.MIN_VALUE, Integer.MAX_VALUE}) {
      refuses(lab, BAD_ARGUMENT, () -> lab.observe(1, value));
    }
    answers(2, () -> lab.observe(1, 999));
  }

  @Says({"Observes the value of the next day of a series.", "Returns the day.", "for the days 0, 1, 2 and so on"})
  static void promise03AnswersTheDay() {
    Lab lab = new Lab();
    for (int day = 0; day < 30; day++) {
      int d = day;
      answers(d, () -> lab.observe(2, 900 - d));
      answers(900 - d, () -> lab.value(2, d));
      answers(d + 1, () -> lab.days(2));
    }
  }

  @Says("A series has at most 30 values, each from 0 to 999")
  static void promise03TakesTheThirtiethValue() {
    for (int series = 0; series < 4; series++) {
      int s = series;
      Lab lab = new Lab().seeTimes(s, 29, 7);
      answers(29, () -> lab.observe(s, 8));
      answers(30, () -> lab.days(s));
      answers(8, () -> lab.value(s, 29));
    }
  }

  @Says("Throws `IllegalStateException` if the series has 30 values")
  static void promise03RefusesTheThirtyFirstValue() {
    for (int series = 0; series < 4; series++) {
      int s = series;
      Lab lab = new Lab().prophets("l1 s2").seeTimes(s, 30, 7);
      refuses(lab, BAD_STATE, () -> lab.observe(s, 8));
      refuses(lab, BAD_STATE, () -> lab.observe(s, 0));
      answers(29, () -> lab.errors(0, s));
    }
  }

  @Says("Throws `IllegalStateException` if the series has 30 values")
  static void promise03AFullSeriesLeavesTheOthers() {
    Lab lab = new Lab().seeTimes(1, 30, 7);
    answers(0, () -> lab.observe(0, 1));
    answers(0, () -> lab.observe(2, 1));
    answers(0, () -> lab.observe(3, 1));
  }

  @Says("A series has at most 30 values")
  static void promise03FillsAllSeries() {
    Lab lab = new Lab();
    for (int day = 0; day < 30; day++) {
      for (int series = 0; series < 4; series++) {
        int s = series;
        int d = day;
        answers(d, () -> lab.observe(s, d * 4 + s));
      }
    }
    for (int series = 0; series < 4; series++) {
      int s = series;
      refuses(lab, BAD_STATE, () -> lab.observe(s, 5));
      answers(29 * 4 + s, () -> lab.value(s, 29));
    }
  }

  @Says("Observes the value of the next day of a series.")
  static void promise03TakesValuesAgainWhenSomeAreGone() {
    Lab lab = new Lab().seeTimes(0, 30, 7);
    lab.undo();
    answers(29, () -> lab.observe(0, 8));
    refuses(lab, BAD_STATE, () -> lab.observe(0, 9));
    lab.forget(0);
    answers(0, () -> lab.observe(0, 9));
    answers(9, () -> lab.value(0, 0));
  }

  @Says("the exception that is listed first is thrown")
  static void promise03TestsTheSeriesBeforeTheValue() {
    Lab lab = new Lab().seeTimes(3, 30, 7);
    refusesNoSuchSeries(lab, series -> lab.observe(series, 1000));
    refusesNoSuchSeries(lab, series -> lab.observe(series, -1));
  }

  @Says("the exception that is listed first is thrown")
  static void promise03TestsTheValueBeforeTheRoom() {
    Lab lab = new Lab().seeTimes(3, 30, 7);
    refuses(lab, BAD_ARGUMENT, () -> lab.observe(3, 1000));
    refuses(lab, BAD_ARGUMENT, () -> lab.observe(3, -1));
    refuses(lab, BAD_STATE, () -> lab.observe(3, 999));
  }

  // ---- 4: setLimit

  @Says({"Sets the limit for outliers.", "Returns the previous limit.", "The limit is from 1 to 9, initially 3."})
  static void promise04AnswersThePreviousLimit() {
    Lab lab = new Lab();
    answers(3, () -> lab.setLimit(9));
    answers(9, () -> lab.setLimit(1));
    answers(1, () -> lab.setLimit(1));
    answers(1, () -> lab.setLimit(4));
    answers(4, lab::limit);
  }

  @Says("the new limit, 1 to 9")
  static void promise04TakesTheLimits1To9() {
    Lab lab = new Lab();
    int previous = 3;
    for (int limit = 1; limit <= 9; limit++) {
      int l = limit;
      answers(previous, () -> lab.setLimit(l));
      answers(l, lab::limit);
      previous = l;
    }
  }

  @Says("Throws `IllegalArgumentException` if the limit is out of range")
  static void promise04RefusesTheLimits0And10() {
    Lab lab = new Lab().see(0, 10, 10, 10, 10, 10, 14);
    for (int limit : new int[] {0, 10, -1, 11, Integer.MIN_VALUE, Integer.MAX_VALUE}) {
      refuses(lab, BAD_ARGUMENT, () -> lab.setLimit(limit));
    }
    answers(3, () -> lab.setLimit(5));
    refuses(lab, BAD_ARGUMENT, () -> lab.setLimit(0));
    answers(5, () -> lab.setLimit(6));
  }

  // ---- 5: forget

  @Says({"Removes all values of a series", "`series`: the series"})
  static void promise05TakesTheSeries0To3() {
    for (int series = 0; series < 4; series++) {
      Lab lab = new Lab().see(0, 1).see(1, 1, 2).see(2, 1, 2, 3).see(3, 1, 2, 3, 4);
      int s = series;
      answers(s + 1, () -> lab.forget(s));
      for (int other = 0; other < 4; other++) {
        int o = other;
        answers(o == s ? 0 : o + 1, () -> lab.days(o));
      }
    }
  }

  @Says("Returns the number of values that were removed.")
  static void promise05AnswersTheNumberOfValues() {
    Lab lab = new Lab();
    answers(0, () -> lab.forget(2));
    lab.see(2, 9);
    answers(1, () -> lab.forget(2));
    answers(0, () -> lab.forget(2));
    lab.seeTimes(2, 30, 9);
    answers(30, () -> lab.forget(2));
    answers(0, () -> lab.days(2));
  }

  @Says("and the errors and points of all prophets for it")
  static void promise05RemovesErrorsAndPointsOfAllProphets() {
    Lab lab = new Lab().prophets("l1 m1 t1 s1 d1 l1 m2 s9").see(1, 5, 7, 9, 9);
    lab.forget(1);
    for (int prophet = 0; prophet < 8; prophet++) {
      int p = prophet;
      answers(0, () -> lab.errors(p, 1));
      answers(0.0, () -> lab.errorSum(p, 1));
      answers(0.0, () -> lab.errorSumByBacktest(p, 1));
      answers(0, () -> lab.points(p, 1));
      answers(false, () -> lab.hasForecast(p, 1));
      answers(NO_QUOTIENT, () -> lab.meanError(p));
    }
    answers(true, lab::isConsistent);
  }

  @Says("and the errors and points of all prophets for it")
  static void promise05LeavesTheScoresOfOtherSeries() {
    Lab lab = new Lab().prophets("l1 t1").see(0, 5, 7, 9).see(1, 5, 7, 9).see(2, 1, 4, 7);
    lab.forget(1);
    answers(2, () -> lab.errors(0, 0));
    answers(4.0, () -> lab.errorSum(0, 0));
    answers(1, () -> lab.points(0, 0));
    answers(1, () -> lab.points(1, 0));
    answers(6.0, () -> lab.errorSum(0, 2));
    answers(0.0, () -> lab.errorSum(1, 2));
    answers(1, () -> lab.points(1, 2));
  }

  @Says("Removes all values of a series")
  static void promise05TheSeriesBeginsAgain() {
    Lab lab = new Lab().prophets("s5 m2").seeTimes(3, 30, 40);
    lab.forget(3);
    answers(NO_ELEMENT, () -> lab.forecast(0, 3));
    answers(0, () -> lab.observe(3, 10));
    answers(NO_ELEMENT, () -> lab.value(3, 1));
    answers(10.0, () -> lab.forecast(0, 3));
    answers(false, () -> lab.hasForecast(1, 3));
    answers(1, () -> lab.observe(3, 20));
    answers(10.0, () -> lab.errorSum(0, 3));
    answers(1, () -> lab.points(0, 3));
    answers(0, () -> lab.errors(1, 3));
  }

  @Says("Removes all values of a series")
  static void promise05LeavesProphetsAndLimit() {
    Lab lab = new Lab().prophets("s5 m2").see(0, 1, 2);
    lab.setLimit(8);
    lab.forget(0);
    answers(2, lab::prophets);
    answers(8, lab::limit);
    answers('m', () -> lab.kind(1));
  }

  @Says("Throws `IndexOutOfBoundsException` if there is no such series")
  static void promise05RefusesTheSeriesMinus1And4() {
    Lab lab = new Lab().prophets("l1").see(0, 1, 2).see(3, 4, 5);
    refusesNoSuchSeries(lab, lab::forget);
  }
}
