import java.util.function.BiFunction;

/** Promises 19 to 33: prophets, their forecasts and their scores. */
public final class ProphetTest extends Check {
  /** A call with a prophet and a series. */
  private interface Asking {
    Object of(Lab lab, int prophet, int series);
  }

  private static final int[] NO_PROPHETS = {-1, 8, 9, Integer.MIN_VALUE, Integer.MAX_VALUE};

  public static void main(String[] args) {
    runAll(ProphetTest.class);
  }

  private static Lab with(String prophets) {
    return new Lab().prophets(prophets);
  }

  private static int valueOn(int day) {
    return day * 271 % 1000;
  }

  private static Lab filled(String prophets, int series) {
    Lab lab = with(prophets);
    for (int day = 0; day < 30; day++) lab.observe(series, valueOn(day));
    return lab;
  }

  /** The prophets with the numbers -1 and n, where there are n, are none. */
  private static void refusesNoSuchProphet(BiFunction<Lab, Integer, Object> call) {
    for (String prophets : new String[] {"", "l1", "l1 m1 t1", "l1 m1 d1 t1 s1 l1 m1"}) {
      Lab lab = prophets.isEmpty() ? new Lab() : with(prophets);
      lab.see(0, 4, 5, 6);
      refuses(lab, NO_INDEX, () -> call.apply(lab, prophets.isEmpty() ? 0 : prophets.split(" ").length));
      for (int prophet : NO_PROPHETS) refuses(lab, NO_INDEX, () -> call.apply(lab, prophet));
    }
    Lab full = with("l1 m1 d1 t1 s1 l1 m1 d1").see(0, 4, 5, 6);
    for (int prophet : NO_PROPHETS) refuses(full, NO_INDEX, () -> call.apply(full, prophet));
    answers(true, () -> call.apply(full, 7) != null);
    full.forget(0);
    for (int undone = 0; undone < 5; undone++) full.undo();
    refuses(full, NO_INDEX, () -> call.apply(full, 7));
    answers(7, full::prophets);
  }

  private static void refusesNoSuchIndex(Asking call) {
    refusesNoSuchProphet((lab, prophet) -> call.of(lab, prophet, 0));
    Lab lab = with("l1 m2").see(0, 1, 2, 3).see(3, 4, 5);
    for (int prophet : new int[] {0, 1}) {
      refusesNoSuchSeries(lab, series -> call.of(lab, prophet, series));
      answers(true, () -> call.of(lab, prophet, 0) != null);
      answers(true, () -> call.of(lab, prophet, 3) != null);
    }
    refusesNoSuchSeries(lab, series -> call.of(lab, -1, series));
    refusesNoSuchSeries(lab, series -> call.of(lab, 2, series));
  }

  // ---- 19: prophets

  @Says({"Returns the number of prophets.", "There are at most 8 prophets"})
  static void promise19CountsFrom0To8() {
    Lab lab = new Lab();
    answers(0, lab::prophets);
    for (int number = 1; number <= 8; number++) {
      int n = number;
      lab.addProphet('t', 1);
      answers(n, lab::prophets);
    }
    answers(BAD_STATE, () -> lab.addProphet('t', 1));
    answers(8, lab::prophets);
    lab.undo();
    answers(7, lab::prophets);
  }

  // ---- 20 and 21: kind and parameter

  @Says({"Returns the kind of a prophet.", "`prophet`: the prophet", "Returns the kind."})
  static void promise20AnswersOfTheProphets0To7() {
    Lab lab = with("l9 m1 d2 t3 s4 s5 t6 d7");
    for (int prophet = 0; prophet < 8; prophet++) {
      int p = prophet;
      answers("lmdtsstd".charAt(p), () -> lab.kind(p));
    }
  }

  @Says("Throws `IndexOutOfBoundsException` if there is no such prophet")
  static void promise20RefusesNoSuchProphet() {
    refusesNoSuchProphet(Lab::kind);
  }

  @Says("Returns the kind of a prophet.")
  static void promise20AnswersOfOneThatTookAnUndoneNumber() {
    Lab lab = with("l1 m2");
    lab.undo();
    answers(NO_INDEX, () -> lab.kind(1));
    lab.addProphet('d', 3);
    answers('d', () -> lab.kind(1));
    answers('l', () -> lab.kind(0));
  }

  @Says({"Returns the parameter of a prophet.", "`prophet`: the prophet", "Returns the parameter."})
  static void promise21AnswersOfTheProphets0To7() {
    Lab lab = with("l9 m1 d2 t3 s4 s5 t6 d7");
    for (int prophet = 0; prophet < 8; prophet++) {
      int p = prophet;
      answers(p == 0 ? 9 : p, () -> lab.parameter(p));
    }
  }

  @Says("Throws `IndexOutOfBoundsException` if there is no such prophet")
  static void promise21RefusesNoSuchProphet() {
    refusesNoSuchProphet(Lab::parameter);
  }

  @Says("Returns the parameter of a prophet.")
  static void promise21AnswersOfOneThatTookAnUndoneNumber() {
    Lab lab = with("l1 m2");
    lab.undo();
    answers(NO_INDEX, () -> lab.parameter(1));
    lab.addProphet('d', 3);
    answers(3, () -> lab.parameter(1));
    answers(1, () -> lab.parameter(0));
  }

  // ---- 22: hasForecast

  private static void hasForecastFrom(String prophet, int needed) {
    Lab lab = with(prophet);
    for (int days = 0; days <= 30; days++) {
      boolean due = days >= needed;
      answers(due, () -> lab.hasForecast(0, 2));
      answers(false, () -> lab.hasForecast(0, 1));
      if (days < 30) lab.observe(2, days);
    }
    lab.forget(2);
    answers(false, () -> lab.hasForecast(0, 2));
  }

  @Says({"Returns whether a prophet has a forecast for the next day of a series.", "Returns true if there is a forecast.",
      "The kind 'm' and the kind 'd' need p values"})
  static void promise22MeanAndMedianNeedPValues() {
    for (int p = 1; p <= 9; p++) {
      hasForecastFrom("m" + p, p);
      hasForecastFrom("d" + p, p);
    }
  }

  @Says({"the kind 't' needs 2", "The parameter does not matter for the kinds 'l' and 't'."})
  static void promise22TrendNeeds2Values() {
    hasForecastFrom("t1", 2);
    hasForecastFrom("t2", 2);
    hasForecastFrom("t9", 2);
  }

  @Says({"and the kinds 'l' and 's' need 1", "The parameter does not matter for the kinds 'l' and 't'."})
  static void promise22LastAndSmoothingNeed1Value() {
    hasForecastFrom("l1", 1);
    hasForecastFrom("l9", 1);
    hasForecastFrom("s1", 1);
    hasForecastFrom("s9", 1);
  }

  @Says({"`prophet`: the prophet", "`series`: the series"})
  static void promise22TakesEachProphetAndSeries() {
    Lab lab = with("m1 m2 m3 m4 m5 m6 m7 m8").seeTimes(0, 1, 5).seeTimes(1, 3, 5).seeTimes(2, 5, 5).seeTimes(3, 7, 5);
    for (int prophet = 0; prophet < 8; prophet++) {
      for (int series = 0; series < 4; series++) {
        int p = prophet;
        int s = series;
        answers(2 * s >= p, () -> lab.hasForecast(p, s));
      }
    }
  }

  @Says("Throws `IndexOutOfBoundsException` if there is no such prophet or no such series")
  static void promise22RefusesNoSuchIndex() {
    refusesNoSuchIndex(Lab::hasForecast);
  }

  // ---- 23: forecast

  @Says({"Returns the forecast of a prophet for the next day of a series.", "Returns the forecast.",
      "kind 'l' (last): the last value"})
  static void promise23ForecastsTheLastValue() {
    Lab lab = with("l1 l9").see(0, 0);
    answers(0.0, () -> lab.forecast(0, 0));
    lab.see(0, 999);
    answers(999.0, () -> lab.forecast(0, 0));
    answers(999.0, () -> lab.forecast(1, 0));
    lab.see(0, 5);
    answers(5.0, () -> lab.forecast(0, 0));
    answers(5.0, () -> lab.forecast(1, 0));
  }

  @Says("kind 'm' (mean): the sum of the last p values divided by p, both converted to double")
  static void promise23ForecastsTheMeanOfPValues() {
    Lab lab = with("m1 m2 m3 m9").see(0, 10, 13, 17);
    answers(17.0, () -> lab.forecast(0, 0));
    answers(15.0, () -> lab.forecast(1, 0));
    answers(40.0 / 3.0, () -> lab.forecast(2, 0));
    lab.see(0, 2);
    answers(9.5, () -> lab.forecast(1, 0));
    answers(32.0 / 3.0, () -> lab.forecast(2, 0));
    lab.see(0, 1, 1, 1, 1, 1);
    answers(47.0 / 9.0, () -> lab.forecast(3, 0));
    lab.see(0, 1);
    answers(38.0 / 9.0, () -> lab.forecast(3, 0));
  }

  @Says("kind 'd' (median): the median of the last p values")
  static void promise23ForecastsTheMedianOfPValues() {
    Lab lab = with("d1 d2 d3 d4 d9").see(0, 10, 13, 17);
    answers(17.0, () -> lab.forecast(0, 0));
    answers(13.0, () -> lab.forecast(1, 0));
    answers(13.0, () -> lab.forecast(2, 0));
    lab.see(0, 2);
    answers(2.0, () -> lab.forecast(1, 0));
    answers(13.0, () -> lab.forecast(2, 0));
    answers(10.0, () -> lab.forecast(3, 0));
    lab.see(0, 20, 21, 22, 23, 24);
    answers(20.0, () -> lab.forecast(4, 0));
    lab.see(0, 1);
    answers(20.0, () -> lab.forecast(4, 0));
    lab.see(0, 1);
    answers(20.0, () -> lab.forecast(4, 0));
    lab.see(0, 1);
    answers(20.0, () -> lab.forecast(4, 0));
    lab.see(0, 1);
    answers(20.0, () -> lab.forecast(4, 0));
    lab.see(0, 1);
    answers(1.0, () -> lab.forecast(4, 0));
  }

  @Says("kind 't' (trend): twice the last value minus the value before it")
  static void promise23ForecastsTheTrend() {
    Lab lab = with("t1 t9").see(0, 10, 13);
    answers(16.0, () -> lab.forecast(0, 0));
    answers(16.0, () -> lab.forecast(1, 0));
    lab.see(0, 999);
    answers(1985.0, () -> lab.forecast(0, 0));
    lab.see(0, 0);
    answers(-999.0, () -> lab.forecast(0, 0));
    lab.see(0, 0);
    answers(0.0, () -> lab.forecast(0, 0));
    lab.see(0, 999);
    answers(1998.0, () -> lab.forecast(0, 0));
  }

  @Says({"kind 's' (smoothing): the smoothed level", "where x is the level before"})
  static void promise23ForecastsTheSmoothedLevel() {
    for (int parameter = 1; parameter <= 9; parameter++) {
      Lab lab = with("s" + parameter);
      double level = valueOn(3);
      for (int day = 3; day < 33; day++) {
        int v = valueOn(day);
        if (day > 3) level = level + parameter * (v - level) / 10.0;
        double due = level;
        lab.observe(1, v);
        answers(due, () -> lab.forecast(0, 1));
      }
    }
  }

  @Says("The forecast of a prophet for the next day of a series is a double, which is computed from the values of the series")
  static void promise23ForecastsAfterThirtyValuesToo() {
    Lab lab = with("l1 m9 d9 t1");
    for (int day = 0; day < 30; day++) lab.observe(1, day * 2);
    answers(58.0, () -> lab.forecast(0, 1));
    answers(50.0, () -> lab.forecast(1, 1));
    answers(50.0, () -> lab.forecast(2, 1));
    answers(60.0, () -> lab.forecast(3, 1));
  }

  @Says({"Throws `NoSuchElementException` if there is no forecast", "with fewer values there is no forecast"})
  static void promise23RefusesWithFewerValues() {
    refusesWithFewerValues(Lab::forecast);
  }

  private static void refusesWithFewerValues(Asking call) {
    String[] prophets = {"l1", "l9", "s1", "s9", "t1", "t9", "m1", "d1", "m2", "d2", "m9", "d9"};
    int[] needed = {1, 1, 1, 1, 2, 2, 1, 1, 2, 2, 9, 9};
    for (int i = 0; i < prophets.length; i++) {
      Lab lab = with(prophets[i]);
      for (int days = 0; days < needed[i]; days++) {
        refuses(lab, NO_ELEMENT, () -> call.of(lab, 0, 2));
        lab.observe(2, 7);
      }
      answers(true, () -> call.of(lab, 0, 2) instanceof Number);
      refuses(lab, NO_ELEMENT, () -> call.of(lab, 0, 3));
      lab.undo();
      refuses(lab, NO_ELEMENT, () -> call.of(lab, 0, 2));
    }
  }

  @Says({"`prophet`: the prophet", "`series`: the series"})
  static void promise23TakesEachProphetAndSeries() {
    Lab lab = with("l1 m1 d1 t1 s1 m2 d2 l9").see(0, 10, 20).see(1, 11, 21).see(2, 12, 22).see(3, 13, 23);
    double[] due = {20.0, 20.0, 20.0, 30.0, 11.0, 15.0, 10.0, 20.0};
    for (int prophet = 0; prophet < 8; prophet++) {
      for (int series = 0; series < 4; series++) {
        int p = prophet;
        int s = series;
        answers(due[p] + s, () -> lab.forecast(p, s));
      }
    }
  }

  @Says({"Throws `IndexOutOfBoundsException` if there is no such prophet or no such series",
      "the exception that is listed first is thrown"})
  static void promise23RefusesNoSuchIndexFirst() {
    refusesNoSuchIndex(Lab::forecast);
    Lab empty = with("l1");
    refusesNoSuchSeries(empty, series -> empty.forecast(0, series));
    refuses(empty, NO_INDEX, () -> empty.forecast(1, 0));
  }

  // ---- 24: forecastBits

  @Says({"Returns the bits of the forecast of a prophet, as by Double.doubleToLongBits.", "Returns the bits."})
  static void promise24AnswersTheBitsOfWholeNumbers() {
    Lab lab = with("l1 t1").see(0, 5);
    for (int value : new int[] {0, 1, 2, 3, 4, 7, 8, 255, 256, 511, 512, 513, 998, 999}) {
      Lab other = lab.again().see(0, value);
      answers(Double.doubleToLongBits(value), () -> other.forecastBits(0, 0));
      answers(Double.doubleToLongBits(2.0 * value - 5.0), () -> other.forecastBits(1, 0));
    }
  }

  @Says("Returns the bits of the forecast of a prophet, as by Double.doubleToLongBits.")
  static void promise24AnswersTheBitsOf0AndOfNegativeNumbers() {
    Lab lab = with("l1 t1 s5 m2 d2").see(1, 0, 0);
    for (int prophet = 0; prophet < 5; prophet++) {
      int p = prophet;
      answers(0L, () -> lab.forecastBits(p, 1));
    }
    lab.see(2, 1, 0);
    answers(0xbff0000000000000L, () -> lab.forecastBits(1, 2));
    lab.see(3, 999, 0);
    answers(Double.doubleToLongBits(-999.0), () -> lab.forecastBits(1, 3));
    lab.see(0, 2, 1);
    answers(0L, () -> lab.forecastBits(1, 0));
  }

  @Says("Returns the bits of the forecast of a prophet, as by Double.doubleToLongBits.")
  static void promise24AnswersTheBitsOfFractions() {
    Lab lab = with("m2 m3 m7 s1 s9");
    int[] values = {0, 1, 0, 0, 999, 998, 1, 1, 2, 3, 500, 123, 77};
    for (int day = 0; day < values.length; day++) {
      lab.observe(0, values[day]);
      for (int prophet = 0; prophet < 5; prophet++) {
        int p = prophet;
        Object due = outcome(() -> Double.doubleToLongBits(lab.forecast(p, 0)));
        answers(due, () -> lab.forecastBits(p, 0));
      }
    }
    answers(Double.doubleToLongBits(0.5), () -> with("m2").see(0, 0, 1).forecastBits(0, 0));
    answers(Double.doubleToLongBits(0.1), () -> with("s1").see(0, 0, 1).forecastBits(0, 0));
    answers(Double.doubleToLongBits(1.0 / 3.0), () -> with("m3").see(0, 0, 0, 1).forecastBits(0, 0));
  }

  @Says("Returns the bits of the forecast of a prophet, as by Double.doubleToLongBits.")
  static void promise24AnswersTheBitsOfTheSmallestLevel() {
    Lab lab = with("s9").see(1, 1).seeTimes(1, 29, 0);
    double level = 1.0;
    for (int day = 1; day < 30; day++) level = level + 9 * (0 - level) / 10.0;
    long due = Double.doubleToLongBits(level);
    same(true, level > 0.0 && level < 1e-28);
    answers(due, () -> lab.forecastBits(0, 1));
  }

  @Says({"Throws `NoSuchElementException` if there is no forecast", "with fewer values there is no forecast"})
  static void promise24RefusesWithFewerValues() {
    refusesWithFewerValues(Lab::forecastBits);
  }

  @Says({"`prophet`: the prophet", "`series`: the series"})
  static void promise24TakesEachProphetAndSeries() {
    Lab lab = with("l1 m1 d1 t1 s1 m2 d2 l9").see(0, 10, 20).see(1, 11, 21).see(2, 12, 22).see(3, 13, 23);
    double[] due = {20.0, 20.0, 20.0, 30.0, 11.0, 15.0, 10.0, 20.0};
    for (int prophet = 0; prophet < 8; prophet++) {
      for (int series = 0; series < 4; series++) {
        int p = prophet;
        int s = series;
        answers(Double.doubleToLongBits(due[p] + s), () -> lab.forecastBits(p, s));
      }
    }
  }

  @Says({"Throws `IndexOutOfBoundsException` if there is no such prophet or no such series",
      "the exception that is listed first is thrown"})
  static void promise24RefusesNoSuchIndexFirst() {
    refusesNoSuchIndex(Lab::forecastBits);
    Lab empty = with("l1");
    refusesNoSuchSeries(empty, series -> empty.forecastBits(0, series));
    refuses(empty, NO_INDEX, () -> empty.forecastBits(1, 0));
  }

  // ---- 25 to 28: errors and points

  /** Day 1: l and s forecast 10. Day 2: l 14, m 12, t 18, s 12. Day 3: l 20, m 17, t 26, s 16. */
  private static Lab scored(int series) {
    return with("l1 m2 t1 s5").see(series, 10, 14, 20, 20);
  }

  private static void answersOfEachSeries(Asking call, Object... due) {
    for (int series = 0; series < 4; series++) {
      Lab lab = scored(series);
      for (int prophet = 0; prophet < 4; prophet++) {
        for (int asked = 0; asked < 4; asked++) {
          int p = prophet;
          int a = asked;
          answers(a == series ? due[p] : due[4], () -> call.of(lab, p, a));
        }
      }
    }
  }

  @Says({"Returns the number of errors of a prophet for a series.", "Returns the number of errors.", "`prophet`: the prophet",
      "`series`: the series"})
  static void promise25AnswersOfEachSeries() {
    answersOfEachSeries(Lab::errors, 3, 2, 2, 3, 0);
  }

  @Says("every prophet who had a forecast for this day gets an error")
  static void promise25CountsFromTheFirstDayWithAForecast() {
    String[] prophets = {"l1", "s9", "t1", "t9", "m1", "d1", "m2", "d2", "m9", "d9"};
    int[] needed = {1, 1, 2, 2, 1, 1, 2, 2, 9, 9};
    for (int i = 0; i < prophets.length; i++) {
      Lab lab = with(prophets[i]);
      answers(0, () -> lab.errors(0, 3));
      for (int days = 1; days <= 30; days++) {
        int due = Math.max(0, days - needed[i]);
        lab.observe(3, valueOn(days));
        answers(due, () -> lab.errors(0, 3));
      }
    }
  }

  @Says("Returns the number of errors of a prophet for a series.")
  static void promise25CountsBackWhenAValueIsGone() {
    Lab lab = scored(1);
    lab.undo();
    answers(2, () -> lab.errors(0, 1));
    lab.forget(1);
    answers(0, () -> lab.errors(0, 1));
    lab.undo();
    answers(2, () -> lab.errors(0, 1));
  }

  @Says("every prophet who had a forecast for this day gets an error")
  static void promise25AnErrorOf0Counts() {
    Lab lab = with("l1").see(0, 5, 5);
    answers(1, () -> lab.errors(0, 0));
    answers(0.0, () -> lab.errorSum(0, 0));
  }

  @Says("Throws `IndexOutOfBoundsException` if there is no such prophet or no such series")
  static void promise25RefusesNoSuchIndex() {
    refusesNoSuchIndex(Lab::errors);
  }

  @Says({"Returns the error sum of a prophet for a series, as it was added day by day.", "Returns the error sum.",
      "`prophet`: the prophet", "`series`: the series"})
  static void promise26AnswersOfEachSeries() {
    answersOfEachSeries(Lab::errorSum, 10.0, 11.0, 8.0, 16.0, 0.0);
  }

  @Says("The error sum of a prophet for a series is 0.0 at first, and the errors are added to it day by day.")
  static void promise26Is0UntilTheFirstError() {
    sumIs0UntilTheFirstError(Lab::errorSum);
  }

  private static void sumIs0UntilTheFirstError(Asking sum) {
    String[] prophets = {"l1", "s9", "t1", "m1", "d1", "m9", "d9"};
    int[] needed = {1, 1, 2, 1, 1, 9, 9};
    for (int i = 0; i < prophets.length; i++) {
      Lab lab = with(prophets[i]);
      for (int days = 0; days <= needed[i]; days++) {
        answers(0.0, () -> sum.of(lab, 0, 0));
        lab.observe(0, days == needed[i] ? 107 : 100);
      }
      answers(7.0, () -> sum.of(lab, 0, 0));
      answers(0.0, () -> sum.of(lab, 0, 1));
    }
  }

  @Says("which is the absolute value of the difference of the forecast and the value")
  static void promise26AddsAbsoluteValues() {
    sumsAbsoluteValues(Lab::errorSum);
  }

  private static void sumsAbsoluteValues(Asking sum) {
    answers(999.0, () -> sum.of(with("l1").see(0, 0, 999), 0, 0));
    answers(999.0, () -> sum.of(with("l1").see(0, 999, 0), 0, 0));
    answers(1998.0, () -> sum.of(with("l1").see(0, 999, 0, 999), 0, 0));
    answers(1998.0, () -> sum.of(with("t1").see(0, 999, 0, 999), 0, 0));
    answers(1998.0, () -> sum.of(with("t1").see(0, 0, 999, 0), 0, 0));
    answers(0.0, () -> sum.of(with("t1").see(0, 0, 1, 2, 3), 0, 0));
  }

  @Says("The error sum of a prophet for a series is 0.0 at first, and the errors are added to it day by day.")
  static void promise26AddsThirtyDaysInOrder() {
    sumsThirtyDaysInOrder(Lab::errorSum);
  }

  private static void sumsThirtyDaysInOrder(Asking asking) {
    Lab lab = filled("s3 m7", 3);
    double smoothing = 0.0;
    double mean = 0.0;
    double level = valueOn(0);
    int sum = valueOn(0);
    for (int day = 1; day < 30; day++) {
      int v = valueOn(day);
      smoothing = smoothing + Math.abs(level - v);
      level = level + 3 * (v - level) / 10.0;
      if (day >= 7) {
        mean = mean + Math.abs(sum / 7.0 - v);
        sum -= valueOn(day - 7);
      }
      sum += v;
    }
    Object dueOfSmoothing = smoothing;
    Object dueOfMean = mean;
    answers(dueOfSmoothing, () -> asking.of(lab, 0, 3));
    answers(dueOfMean, () -> asking.of(lab, 1, 3));
  }

  private static void sumsBackWhenAValueIsGone(Asking sum) {
    Lab lab = scored(2);
    lab.undo();
    answers(10.0, () -> sum.of(lab, 0, 2));
    answers(2.0, () -> sum.of(lab, 2, 2));
    lab.forget(2);
    answers(0.0, () -> sum.of(lab, 0, 2));
    lab.see(2, 1, 2);
    answers(1.0, () -> sum.of(lab, 0, 2));
    answers(0.0, () -> sum.of(lab, 2, 2));
  }

  @Says("Returns the error sum of a prophet for a series, as it was added day by day.")
  static void promise26SumsBackWhenAValueIsGone() {
    sumsBackWhenAValueIsGone(Lab::errorSum);
  }

  @Says("Throws `IndexOutOfBoundsException` if there is no such prophet or no such series")
  static void promise26RefusesNoSuchIndex() {
    refusesNoSuchIndex(Lab::errorSum);
  }

  @Says({"Returns the same sum, by a backtest that forecasts each day again from the values before it.",
      "Returns the error sum.", "`prophet`: the prophet", "`series`: the series"})
  static void promise27AnswersOfEachSeries() {
    answersOfEachSeries(Lab::errorSumByBacktest, 10.0, 11.0, 8.0, 16.0, 0.0);
  }

  @Says("Returns the same sum, by a backtest")
  static void promise27Is0UntilTheFirstError() {
    sumIs0UntilTheFirstError(Lab::errorSumByBacktest);
  }

  @Says("Returns the same sum, by a backtest")
  static void promise27AddsAbsoluteValues() {
    sumsAbsoluteValues(Lab::errorSumByBacktest);
  }

  @Says("forecasts each day again from the values before it")
  static void promise27AddsThirtyDaysInOrder() {
    sumsThirtyDaysInOrder(Lab::errorSumByBacktest);
  }

  @Says("Returns the same sum, by a backtest")
  static void promise27SumsBackWhenAValueIsGone() {
    sumsBackWhenAValueIsGone(Lab::errorSumByBacktest);
  }

  @Says("Throws `IndexOutOfBoundsException` if there is no such prophet or no such series")
  static void promise27RefusesNoSuchIndex() {
    refusesNoSuchIndex(Lab::errorSumByBacktest);
  }

  @Says({"Returns the points of a prophet for a series.", "Returns the number of points.", "`prophet`: the prophet",
      "`series`: the series"})
  static void promise28AnswersOfEachSeries() {
    answersOfEachSeries(Lab::points, 2, 0, 1, 0, 0);
  }

  private static void answersPoints(Lab lab, int series, int... due) {
    for (int prophet = 0; prophet < due.length; prophet++) {
      int p = prophet;
      answers(due[p], () -> lab.points(p, series));
    }
  }

  @Says("Among the prophets who had a forecast")
  static void promise28NoPointWithoutAForecast() {
    Lab lab = with("m3 d2 t1");
    lab.see(0, 50);
    answersPoints(lab, 0, 0, 0, 0);
    lab.see(0, 50);
    answersPoints(lab, 0, 0, 0, 0);
    lab.see(0, 50);
    answersPoints(lab, 0, 0, 1, 0);
    lab.see(0, 50);
    answersPoints(lab, 0, 1, 1, 0);
  }

  @Says("and of several the one with the smallest number, gets a point for this series")
  static void promise28TheSmallestNumberOfEqualErrors() {
    answersPoints(with("l1 l1 l1 l1 l1 l1 l1 l1").see(1, 5, 9), 1, 1, 0, 0, 0, 0, 0, 0, 0);
    answersPoints(with("m2 l1 s9").see(1, 50, 50), 1, 0, 1, 0);
    answersPoints(with("m2 l1 s9").see(1, 50, 50, 50), 1, 1, 1, 0);
    // Before the last day m forecasts 12 and t 18, then d 20 and t 40, each as far from the value as the other.
    answersPoints(with("m2 t1").see(2, 10, 14, 15), 2, 1, 0);
    answersPoints(with("t1 m2").see(2, 10, 14, 15), 2, 1, 0);
    answersPoints(with("d2 t1").see(0, 20, 30, 30), 0, 1, 0);
    answersPoints(with("t1 d2").see(0, 20, 30, 30), 0, 1, 0);
  }

  @Says("the one with the smallest error")
  static void promise28TheSmallestError() {
    // Before the last day m forecasts 45, l 40 and s 41.
    answersPoints(with("m2 l1 s9").see(0, 50, 50, 40, 30), 0, 1, 2, 0);
    answersPoints(with("m2 l1 s9").see(0, 50, 50, 40, 42), 0, 1, 1, 1);
    answersPoints(with("m2 l1 s9").see(0, 50, 50, 40, 46), 0, 2, 1, 0);
    answersPoints(with("t1 t1 t1 t1 t1 t1 t1 l1").see(3, 10, 20, 20), 3, 0, 0, 0, 0, 0, 0, 0, 2);
  }

  @Says("gets a point for this series")
  static void promise28CountsFrom0To29() {
    Lab lab = with("l1 t1");
    answersPoints(lab, 2, 0, 0);
    for (int days = 1; days <= 30; days++) {
      lab.observe(2, 5);
      answersPoints(lab, 2, days - 1, 0);
    }
    lab.undo();
    answersPoints(lab, 2, 28, 0);
    lab.forget(2);
    answersPoints(lab, 2, 0, 0);
  }

  @Says("Throws `IndexOutOfBoundsException` if there is no such prophet or no such series")
  static void promise28RefusesNoSuchIndex() {
    refusesNoSuchIndex(Lab::points);
  }

  // ---- 29: meanError

  @Says({"Returns the mean error of a prophet", "Returns the mean error.", "`prophet`: the prophet"})
  static void promise29DividesTheSumsOfAllSeries() {
    Lab lab = with("l1 l2 m9 t1").see(0, 10, 13).see(1, 10, 11, 12).see(2, 7).see(3, 10, 0);
    answers(15.0 / 4.0, () -> lab.meanError(0));
    answers(15.0 / 4.0, () -> lab.meanError(1));
    answers(0.0, () -> lab.meanError(3));
    answers(NO_QUOTIENT, () -> lab.meanError(2));
  }

  @Says("the error sums for the series 0 to 3, added in this order to 0.0")
  static void promise29AddsInTheOrderOfTheSeries() {
    // Added in another order these sums differ in the last bits.
    int[][] values = {{85, 95, 24}, {92, 86, 7}, {98, 64, 93}, {4, 41, 60}};
    Lab lab = with("s3");
    double[] sums = new double[4];
    for (int series = 0; series < 4; series++) {
      double level = values[series][0];
      lab.see(series, values[series]);
      for (int day = 1; day < 3; day++) {
        sums[series] = sums[series] + Math.abs(level - values[series][day]);
        level = level + 3 * (values[series][day] - level) / 10.0;
      }
    }
    double due = (0.0 + sums[0] + sums[1] + sums[2] + sums[3]) / 8.0;
    same(false, due == (sums[3] + sums[2] + sums[1] + sums[0]) / 8.0);
    same(false, due == (sums[0] + sums[2] + sums[1] + sums[3]) / 8.0);
    same(false, due == (sums[0] + sums[1] + sums[3] + sums[2]) / 8.0);
    answers(due, () -> lab.meanError(0));
  }

  @Says("Throws `ArithmeticException` if the prophet has no errors")
  static void promise29RefusesAProphetWithoutErrors() {
    Lab lab = with("l1 m2 d9");
    for (int prophet = 0; prophet < 3; prophet++) {
      int p = prophet;
      refuses(lab, NO_QUOTIENT, () -> lab.meanError(p));
    }
    lab.see(0, 5).see(1, 6).see(2, 7).see(3, 8);
    refuses(lab, NO_QUOTIENT, () -> lab.meanError(0));
    lab.see(3, 10);
    answers(2.0, () -> lab.meanError(0));
    refuses(lab, NO_QUOTIENT, () -> lab.meanError(1));
    lab.see(3, 12);
    answers(3.0, () -> lab.meanError(1));
    refuses(lab, NO_QUOTIENT, () -> lab.meanError(2));
    lab.forget(3);
    refuses(lab, NO_QUOTIENT, () -> lab.meanError(0));
    lab.undo();
    answers(2.0, () -> lab.meanError(0));
  }

  @Says("divided by the number of all errors of the prophet, converted to double")
  static void promise29Is0IfAllErrorsAre0() {
    answers(0.0, () -> with("l1").see(2, 5, 5).meanError(0));
    answers(0.5, () -> with("l1").see(2, 5, 5, 6).meanError(0));
    answers(999.0, () -> with("l1").see(3, 999, 0, 999).meanError(0));
  }

  @Says({"Throws `IndexOutOfBoundsException` if there is no such prophet", "the exception that is listed first is thrown"})
  static void promise29RefusesNoSuchProphetFirst() {
    refusesNoSuchProphet(Lab::meanError);
    Lab lab = with("l1");
    refuses(lab, NO_INDEX, () -> lab.meanError(1));
    refuses(lab, NO_INDEX, () -> lab.meanError(-1));
  }

  // ---- 30: prophetByPoints

  private static void ranks(Lab lab, int... due) {
    for (int rank = 0; rank < due.length; rank++) {
      int r = rank;
      answers(due[r], () -> lab.prophetByPoints(r));
    }
    refuses(lab, NO_ELEMENT, () -> lab.prophetByPoints(due.length));
    refuses(lab, NO_ELEMENT, () -> lab.prophetByPoints(-1));
  }

  @Says({"sorted by the sums of their points for all series in descending order", "Returns the prophet.",
      "the rank, counted from 0"})
  static void promise30SortsBySumsOfAllSeries() {
    Lab lab = with("m3 l1 t1 s5").see(0, 10, 12, 14, 16, 18).see(3, 10, 12, 14, 14, 13, 14);
    // The sums are 1, 3, 4 and 1.
    ranks(lab, 2, 1, 0, 3);
    lab.forget(0);
    // On the days 1 to 5 of series 3 the points go to l, t, l, l and m.
    ranks(lab, 1, 0, 2, 3);
    lab.undo();
    lab.forget(3);
    ranks(lab, 2, 1, 0, 3);
  }

  @Says("then by their numbers in ascending order")
  static void promise30EqualSumsInTheOrderOfNumbers() {
    ranks(with("m3 l1 t1 s5 d2 d3 l1 s2"), 0, 1, 2, 3, 4, 5, 6, 7);
    ranks(with("m9 l1 l1 l1 l1 l1 l1 t1").see(0, 1, 2, 3, 4), 7, 1, 0, 2, 3, 4, 5, 6);
    ranks(with("m9 l1 t1").see(0, 1, 2).see(3, 5, 7, 9), 1, 2, 0);
    ranks(with("m9 t1 l1").see(0, 1, 2).see(1, 1, 2, 3, 4), 1, 2, 0);
  }

  @Says("Throws `NoSuchElementException` if there is no such rank")
  static void promise30RefusesNoSuchRank() {
    ranks(new Lab());
    ranks(with("l1"), 0);
    ranks(with("l1 l1"), 0, 1);
    ranks(with("l1 l1 l1 l1 l1 l1 l1 l1"), 0, 1, 2, 3, 4, 5, 6, 7);
    Lab lab = with("l1 m2 t1").see(0, 1, 2, 3);
    for (int rank : new int[] {-1, 3, 4, 8, Integer.MIN_VALUE, Integer.MAX_VALUE}) {
      refuses(lab, NO_ELEMENT, () -> lab.prophetByPoints(rank));
    }
  }

  // ---- 31: bestProphet

  @Says({"Returns the prophet with the smallest mean error", "Returns the prophet."})
  static void promise31TheSmallestMeanError() {
    Lab lab = with("m9 l1 t1 s9").see(0, 10, 20);
    answers(1, lab::bestProphet);
    lab.see(0, 30);
    answers(2, lab::bestProphet);
    lab.see(1, 500, 400, 500, 400);
    // The mean errors are now l 320 / 5, t 400 / 3, s 302.. / 5.
    answers(3, lab::bestProphet);
    lab.forget(1);
    answers(2, lab::bestProphet);
    answers(7, () -> with("s1 s2 s3 s4 s5 s6 s7 l1").see(0, 0, 100, 200).bestProphet());
  }

  @Says("among those who have errors")
  static void promise31OnlyThoseWhoHaveErrors() {
    answers(2, () -> with("m9 t1 l1").see(0, 10, 999).bestProphet());
    answers(7, () -> with("m9 m9 m9 m9 m9 m9 m9 l1").see(3, 999, 0).bestProphet());
    answers(0, () -> with("l1 m9 m9 m9 m9 m9 m9 m9").see(3, 999, 0).bestProphet());
  }

  @Says("and of several the one with the smallest number")
  static void promise31TheSmallestNumberOfEqualMeans() {
    answers(0, () -> with("l1 l1 l1 l1 l1 l1 l1 l1").see(0, 10, 20).bestProphet());
    answers(1, () -> with("m9 m1 l1 d1").see(0, 10, 20, 40).bestProphet());
    // The errors 10 and 0 of l have the same mean as the error 5 of m.
    answers(0, () -> with("m2 l1").see(0, 10, 20, 20).bestProphet());
    answers(0, () -> with("l1 m2").see(0, 10, 20, 20).bestProphet());
    answers(0, () -> with("m2 l1").see(0, 10, 20, 19).bestProphet());
    answers(1, () -> with("m2 l1").see(0, 10, 20, 21).bestProphet());
  }

  @Says("Throws `NoSuchElementException` if no prophet has errors")
  static void promise31RefusesWithoutErrors() {
    Lab none = new Lab();
    refuses(none, NO_ELEMENT, none::bestProphet);
    none.see(0, 1, 2, 3);
    refuses(none, NO_ELEMENT, none::bestProphet);
    Lab lab = with("m9 l1 t1 s9 l2");
    refuses(lab, NO_ELEMENT, lab::bestProphet);
    lab.see(0, 10).see(1, 10).see(2, 10).see(3, 10);
    refuses(lab, NO_ELEMENT, lab::bestProphet);
    lab.see(3, 10);
    answers(1, lab::bestProphet);
    lab.forget(3);
    refuses(lab, NO_ELEMENT, lab::bestProphet);
    Lab eight = with("m9 m9 m9 m9 m9 m9 m9 m9").seeTimes(0, 9, 5);
    refuses(eight, NO_ELEMENT, eight::bestProphet);
    eight.see(0, 5);
    answers(0, eight::bestProphet);
  }

  // ---- 32: outlierShare

  @Says({"Returns the quotient of the number of outliers and the number of values of all series, both converted to float.",
      "Returns the quotient."})
  static void promise32DividesAsFloats() {
    Lab lab = new Lab().see(0, 10, 10, 10, 10, 10, 14);
    answers(1.0f / 6.0f, lab::outlierShare);
    lab.see(3, 10, 10, 10, 10, 10, 90, 10);
    answers(2.0f / 13.0f, lab::outlierShare);
    lab.setLimit(9);
    answers(1.0f / 13.0f, lab::outlierShare);
    lab.forget(3);
    answers(0.0f, lab::outlierShare);
  }

  @Says("Returns the quotient of the number of outliers and the number of values of all series")
  static void promise32Is0WithoutOutliers() {
    answers(0.0f, () -> new Lab().see(2, 5).outlierShare());
    answers(0.0f, () -> new Lab().see(2, 1, 1, 1, 1, 999).outlierShare());
    answers(0.0f, () -> new Lab().seeTimes(3, 30, 5).outlierShare());
  }

  @Says("Returns the quotient of the number of outliers and the number of values of all series")
  static void promise32CountsFourFullSeries() {
    Lab lab = new Lab();
    for (int day = 0; day < 30; day++) {
      for (int series = 0; series < 4; series++) lab.observe(series, day % 2 == 0 ? 100 : 999);
    }
    answers(100.0f / 120.0f, lab::outlierShare);
  }

  @Says("Throws `ArithmeticException` if no series has values")
  static void promise32RefusesWithoutValues() {
    Lab lab = with("l1 s2");
    refuses(lab, NO_QUOTIENT, lab::outlierShare);
    for (int series = 0; series < 4; series++) {
      lab.observe(series, 5);
      answers(0.0f, lab::outlierShare);
      lab.forget(series);
      refuses(lab, NO_QUOTIENT, lab::outlierShare);
    }
  }

  // ---- 33: isConsistent

  @Says("Returns true if the invariants hold.")
  static void promise33EmptyAndFull() {
    answers(true, () -> new Lab().isConsistent());
    Lab lab = with("l1 m2 d3 t4 s5 m9 d9 s1");
    answers(true, lab::isConsistent);
    for (int day = 0; day < 30; day++) {
      for (int series = 0; series < 4; series++) lab.observe(series, (day * 613 + series * 71) % 1000);
      answers(true, lab::isConsistent);
    }
    answers(BAD_STATE, () -> lab.observe(3, 5));
    answers(true, lab::isConsistent);
    lab.undo();
    answers(true, lab::isConsistent);
    lab.forget(2);
    answers(true, lab::isConsistent);
  }

  @Says("Returns true if the invariants hold.")
  static void promise33SmallestAndGreatest() {
    Lab lab = with("l1 l9 m1 m9 d1 d9 s1 s9").see(0, 0, 999, 0, 999).seeTimes(1, 30, 0).seeTimes(2, 30, 999);
    answers(true, lab::isConsistent);
    lab.setLimit(1);
    answers(true, lab::isConsistent);
    lab.setLimit(9);
    answers(true, lab::isConsistent);
    lab.save();
    lab.forget(1);
    lab.restore();
    answers(true, lab::isConsistent);
  }
}
