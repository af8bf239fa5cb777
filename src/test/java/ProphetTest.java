import java.util.NoSuchElementException;

/** Promise 2 and promises 19 to 33: prophets, their forecasts and their scores. */
public final class ProphetTest {
  private static final Class<IndexOutOfBoundsException> NO_INDEX = IndexOutOfBoundsException.class;
  private static final Class<IllegalArgumentException> BAD_ARGUMENT = IllegalArgumentException.class;
  private static final Class<IllegalStateException> BAD_STATE = IllegalStateException.class;
  private static final Class<NoSuchElementException> NO_ELEMENT = NoSuchElementException.class;
  private static final int[] OUTSIDE = {-1, 8, 9, Integer.MIN_VALUE, Integer.MAX_VALUE};

  public static void main(String[] args) {
    promise02();
    promise19();
    promises20And21();
    promise22();
    promise23();
    promise24();
    promises25To28();
    exceptionsOf22To28();
    pointsOfTies();
    promise29();
    promise30();
    promise31();
    promise32();
    promise33();
    Check.end("ProphetTest");
  }

  /** Prophets as in writeProphets, each kind with a digit: "l1 m3". */
  private static ForecastLab with(String prophets) {
    ForecastLab lab = new ForecastLab();
    for (String prophet : prophets.split(" ")) lab.addProphet(prophet.charAt(0), prophet.charAt(1) - '0');
    return lab;
  }

  private static void observe(ForecastLab lab, int series, int... values) {
    for (int value : values) lab.observe(series, value);
  }

  private static void promise02() {
    ForecastLab lab = new ForecastLab();
    String kinds = "lmdtslmd";
    for (int number = 0; number < 8; number++) {
      int n = number;
      Check.answers("2 number", n, () -> lab.addProphet(kinds.charAt(n), n + 1));
    }
    Check.fails(lab, "2 the ninth", BAD_STATE, () -> lab.addProphet('l', 1));
    Check.fails(lab, "2 the ninth, kind first", BAD_ARGUMENT, () -> lab.addProphet('x', 1));
    Check.fails(lab, "2 the ninth, parameter first", BAD_ARGUMENT, () -> lab.addProphet('l', 0));
    ForecastLab other = new ForecastLab();
    for (char kind : new char[] {'a', 'L', 'M', 'k', 'n', 'c', 'e', 'r', 'u', ' ', '\0', (char) ('l' + 256), '\uffff'}) {
      Check.fails(other, "2 kind", BAD_ARGUMENT, () -> other.addProphet(kind, 1));
    }
    for (int parameter : new int[] {0, 10, -1, Integer.MIN_VALUE, Integer.MAX_VALUE}) {
      for (char kind : "lmdts".toCharArray()) {
        Check.fails(other, "2 parameter", BAD_ARGUMENT, () -> other.addProphet(kind, parameter));
      }
    }
    Check.answers("2 parameter 9 of kind l", 0, () -> other.addProphet('l', 9));
    for (int series = 0; series < 4; series++) {
      other.observe(series, 1);
      Check.fails(other, "2 series " + series + " has values", BAD_STATE, () -> other.addProphet('l', 1));
      Check.fails(other, "2 values, argument first", BAD_ARGUMENT, () -> other.addProphet('l', 10));
      other.forget(series);
    }
    Check.answers("2 after forget", 1, () -> other.addProphet('s', 1));
  }

  private static void promise19() {
    ForecastLab lab = new ForecastLab();
    for (int number = 0; number < 8; number++) {
      Check.answers("19 prophets", number, lab::prophets);
      lab.addProphet('t', 1);
    }
    Check.answers("19 all", 8, lab::prophets);
  }

  private static void promises20And21() {
    ForecastLab lab = with("l9 m1 d2 t3 s4");
    String kinds = "lmdts";
    int[] parameters = {9, 1, 2, 3, 4};
    for (int prophet = 0; prophet < 5; prophet++) {
      int p = prophet;
      Check.answers("20 kind", kinds.charAt(p), () -> lab.kind(p));
      Check.answers("21 parameter", parameters[p], () -> lab.parameter(p));
    }
    for (int prophet : new int[] {-1, 5, 8, Integer.MIN_VALUE, Integer.MAX_VALUE}) {
      Check.fails(lab, "20 no such prophet", NO_INDEX, () -> lab.kind(prophet));
      Check.fails(lab, "21 no such prophet", NO_INDEX, () -> lab.parameter(prophet));
    }
  }

  private static void promise22() {
    ForecastLab lab = with("l5 m4 d3 t9 s7 m1 d9");
    int[] needed = {1, 4, 3, 2, 1, 1, 9};
    for (int days = 0; days <= 30; days++) {
      for (int prophet = 0; prophet < 7; prophet++) {
        int p = prophet;
        Check.answers("22 prophet " + p + " after " + days, days >= needed[p], () -> lab.hasForecast(p, 2));
        Check.answers("22 another series", false, () -> lab.hasForecast(p, 1));
      }
      if (days < 30) lab.observe(2, days);
    }
  }

  private static void promise23() {
    ForecastLab lab = with("l1 m3 d3 t1 s5 d4 m1");
    for (int prophet = 0; prophet < 7; prophet++) {
      int p = prophet;
      Check.fails(lab, "23 no values", NO_ELEMENT, () -> lab.forecast(p, 0));
    }
    observe(lab, 0, 10, 12, 17);
    Check.answers("23 last", 17.0, () -> lab.forecast(0, 0));
    Check.answers("23 mean", 13.0, () -> lab.forecast(1, 0));
    Check.answers("23 median", 12.0, () -> lab.forecast(2, 0));
    Check.answers("23 trend", 22.0, () -> lab.forecast(3, 0));
    Check.answers("23 smoothing", 14.0, () -> lab.forecast(4, 0));
    Check.fails(lab, "23 too few values", NO_ELEMENT, () -> lab.forecast(5, 0));
    Check.answers("23 mean of one", 17.0, () -> lab.forecast(6, 0));
    observe(lab, 0, 3);
    Check.answers("23 the last three", 32.0 / 3.0, () -> lab.forecast(1, 0));
    Check.answers("23 the last three", 12.0, () -> lab.forecast(2, 0));
    Check.answers("23 trend below 0", -11.0, () -> lab.forecast(3, 0));
    Check.answers("23 median of four", 10.0, () -> lab.forecast(5, 0));
    observe(lab, 3, 999, 0);
    Check.answers("23 smallest trend", -999.0, () -> lab.forecast(3, 3));
    ForecastLab full = with("m9");
    for (int day = 0; day < 30; day++) full.observe(1, day);
    Check.answers("23 after 30 values", 25.0, () -> full.forecast(0, 1));
    Check.answers("23 one value, no trend", NO_ELEMENT, () -> {
      ForecastLab one = with("t1");
      one.observe(0, 5);
      return one.forecast(0, 0);
    });
  }

  private static void promise24() {
    ForecastLab lab = with("l1 m3 m7 t1 s3 s9 d2");
    for (int prophet = 0; prophet < 7; prophet++) {
      int p = prophet;
      Check.fails(lab, "24 no forecast", NO_ELEMENT, () -> lab.forecastBits(p, 0));
    }
    int[] values = {999, 0, 0, 1, 1, 2, 3, 500, 123, 77, 0, 0, 0, 0, 0, 0, 0, 0, 0, 0, 0, 0, 0, 999, 998, 512, 256, 1, 0, 0};
    for (int value : values) {
      lab.observe(0, value);
      for (int prophet = 0; prophet < 7; prophet++) {
        int p = prophet;
        if (!lab.hasForecast(p, 0)) continue;
        Check.answers("24 bits", Double.doubleToLongBits(lab.forecast(p, 0)), () -> lab.forecastBits(p, 0));
      }
    }
    ForecastLab tiny = with("s9 l1");
    observe(tiny, 1, 1);
    for (int day = 1; day < 30; day++) tiny.observe(1, 0);
    Check.answers("24 tiny", Double.doubleToLongBits(tiny.forecast(0, 1)), () -> tiny.forecastBits(0, 1));
    Check.answers("24 zero", 0L, () -> tiny.forecastBits(1, 1));
  }

  private static void promises25To28() {
    ForecastLab lab = with("l1 m2 t1 s5");
    observe(lab, 1, 10, 14, 20, 20);
    // Day 1: l and s forecast 10. Day 2: l 14, m 12, t 18, s 12. Day 3: l 20, m 17, t 26, s 16.
    int[] errors = {3, 2, 2, 3};
    double[] sums = {4.0 + 6.0 + 0.0, 8.0 + 3.0, 2.0 + 6.0, 4.0 + 8.0 + 4.0};
    int[] points = {2, 0, 1, 0};
    for (int prophet = 0; prophet < 4; prophet++) {
      int p = prophet;
      Check.answers("25 errors of " + p, errors[p], () -> lab.errors(p, 1));
      Check.answers("26 error sum of " + p, sums[p], () -> lab.errorSum(p, 1));
      Check.answers("27 backtest of " + p, sums[p], () -> lab.errorSumByBacktest(p, 1));
      Check.answers("28 points of " + p, points[p], () -> lab.points(p, 1));
      Check.answers("25 another series", 0, () -> lab.errors(p, 0));
      Check.answers("26 another series", 0.0, () -> lab.errorSum(p, 0));
      Check.answers("27 another series", 0.0, () -> lab.errorSumByBacktest(p, 0));
      Check.answers("28 another series", 0, () -> lab.points(p, 0));
    }
    ForecastLab full = with("s3 m7");
    for (int day = 0; day < 30; day++) full.observe(3, day * 271 % 1000);
    Check.answers("25 full", 29, () -> full.errors(0, 3));
    Check.answers("25 full", 23, () -> full.errors(1, 3));
    for (int prophet = 0; prophet < 2; prophet++) {
      int p = prophet;
      Check.answers("27 to the last bit", full.errorSum(p, 3), () -> full.errorSumByBacktest(p, 3));
    }
    Check.answers("28 all days with a forecast", 29, () -> full.points(0, 3) + full.points(1, 3));
  }

  private static void exceptionsOf22To28() {
    ForecastLab lab = with("l1 m2");
    observe(lab, 0, 1, 2, 3);
    int[][] wrong = {{2, 0}, {-1, 0}, {8, 0}, {0, 4}, {0, -1}, {2, 4}, {Integer.MIN_VALUE, 0}, {0, Integer.MAX_VALUE}};
    for (int[] pair : wrong) {
      Check.fails(lab, "22 index", NO_INDEX, () -> lab.hasForecast(pair[0], pair[1]));
      Check.fails(lab, "23 index", NO_INDEX, () -> lab.forecast(pair[0], pair[1]));
      Check.fails(lab, "24 index", NO_INDEX, () -> lab.forecastBits(pair[0], pair[1]));
      Check.fails(lab, "25 index", NO_INDEX, () -> lab.errors(pair[0], pair[1]));
      Check.fails(lab, "26 index", NO_INDEX, () -> lab.errorSum(pair[0], pair[1]));
      Check.fails(lab, "27 index", NO_INDEX, () -> lab.errorSumByBacktest(pair[0], pair[1]));
      Check.fails(lab, "28 index", NO_INDEX, () -> lab.points(pair[0], pair[1]));
    }
  }

  private static void pointsOfTies() {
    ForecastLab lab = with("m2 l1 s9");
    observe(lab, 0, 50);
    Check.answers("28 no forecast, no point", 0, () -> lab.points(0, 0) + lab.points(1, 0) + lab.points(2, 0));
    observe(lab, 0, 50);
    Check.answers("28 the smallest number of those with a forecast", 1, () -> lab.points(1, 0));
    Check.answers("28 none for the later one", 0, () -> lab.points(2, 0));
    observe(lab, 0, 50);
    Check.answers("28 the smallest number", 1, () -> lab.points(0, 0));
    observe(lab, 0, 40, 30);
    // Forecasts for the last day: m 45, l 40, s 41.
    Check.answers("28 the smallest error", 2, () -> lab.points(1, 0));
  }

  private static void promise29() {
    ForecastLab lab = with("s3 m9");
    Check.fails(lab, "29 no errors", ArithmeticException.class, () -> lab.meanError(0));
    for (int series = 3; series >= 0; series--) observe(lab, series, 7 * series, 33, 41 + series, 977);
    double sum = 0.0;
    for (int series = 0; series < 4; series++) sum = sum + lab.errorSum(0, series);
    double due = sum / 12.0;
    Check.answers("29 mean error", due, () -> lab.meanError(0));
    Check.fails(lab, "29 never a forecast", ArithmeticException.class, () -> lab.meanError(1));
    Check.answers("29 no error at all", 0.0, () -> {
      ForecastLab exact = with("l1");
      observe(exact, 2, 5, 5);
      return exact.meanError(0);
    });
    for (int prophet : OUTSIDE) Check.fails(lab, "29 index", NO_INDEX, () -> lab.meanError(prophet));
    Check.fails(lab, "29 the next number", NO_INDEX, () -> lab.meanError(2));
  }

  private static void promise30() {
    ForecastLab empty = new ForecastLab();
    Check.fails(empty, "30 no prophets", NO_ELEMENT, () -> empty.prophetByPoints(0));
    ForecastLab lab = with("m3 l1 t1 s5");
    for (int rank = 0; rank < 4; rank++) {
      int r = rank;
      Check.answers("30 no points", r, () -> lab.prophetByPoints(r));
    }
    observe(lab, 0, 10, 12, 14, 16, 18);
    observe(lab, 3, 10, 12, 14, 14, 13, 14);
    int[] sums = new int[4];
    for (int prophet = 0; prophet < 4; prophet++) {
      for (int series = 0; series < 4; series++) sums[prophet] += lab.points(prophet, series);
    }
    Check.answers("30 sums with a tie", "[1, 3, 4, 1]", () -> java.util.Arrays.toString(sums));
    int[] due = {2, 1, 0, 3};
    for (int rank = 0; rank < 4; rank++) {
      int r = rank;
      Check.answers("30 rank " + r, due[r], () -> lab.prophetByPoints(r));
    }
    ForecastLab all = with("m9 l1 l1 l1 l1 l1 l1 t1");
    observe(all, 0, 1, 2, 3, 4);
    int[] order = {7, 1, 0, 2, 3, 4, 5, 6};
    for (int rank = 0; rank < 8; rank++) {
      int r = rank;
      Check.answers("30 eight prophets, rank " + r, order[r], () -> all.prophetByPoints(r));
    }
    Check.fails(all, "30 eight prophets", NO_ELEMENT, () -> all.prophetByPoints(8));
    for (int rank : new int[] {-1, 4, 8, Integer.MIN_VALUE, Integer.MAX_VALUE}) {
      Check.fails(lab, "30 rank", NO_ELEMENT, () -> lab.prophetByPoints(rank));
    }
  }

  private static void promise31() {
    ForecastLab lab = with("m9 l1 t1 s9 l2");
    Check.fails(lab, "31 no errors", NO_ELEMENT, lab::bestProphet);
    Check.fails(new ForecastLab(), "31 no prophets", NO_ELEMENT, () -> new ForecastLab().bestProphet());
    observe(lab, 0, 10);
    Check.fails(lab, "31 still no errors", NO_ELEMENT, lab::bestProphet);
    observe(lab, 0, 20);
    Check.answers("31 the smallest number", 1, lab::bestProphet);
    observe(lab, 0, 30);
    Check.answers("31 trend", 2, lab::bestProphet);
    observe(lab, 1, 500, 400, 500, 400);
    // The mean errors are now l 320 / 5, t 400 / 3, s 302 / 5.
    Check.answers("31 all series", 3, lab::bestProphet);
    ForecastLab all = with("l1 t1 s1 s1 s1 s1 s1 d1");
    observe(all, 0, 10, 20, 10, 20);
    Check.answers("31 number 2 of eight", 2, all::bestProphet);
    all.forget(0);
    observe(all, 0, 10, 20);
    Check.answers("31 number 0 of eight", 0, all::bestProphet);
    ForecastLab none = with("m9 m9 m9 m9 m9 m9 m9 m9");
    observe(none, 0, 10, 20);
    Check.fails(none, "31 eight without errors", NO_ELEMENT, none::bestProphet);
  }

  private static void promise32() {
    ForecastLab lab = new ForecastLab();
    Check.fails(lab, "32 no values", ArithmeticException.class, lab::outlierShare);
    observe(lab, 0, 10, 10, 10, 10, 10, 14);
    Check.answers("32 one of six", 1.0f / 6.0f, lab::outlierShare);
    observe(lab, 3, 10, 10, 10, 10, 10, 90, 10);
    Check.answers("32 two of thirteen", 2.0f / 13.0f, lab::outlierShare);
    lab.setLimit(9);
    Check.answers("32 the limit of now", 1.0f / 13.0f, lab::outlierShare);
    lab.forget(3);
    Check.answers("32 none of six", 0.0f, lab::outlierShare);
    lab.forget(0);
    Check.fails(lab, "32 no values left", ArithmeticException.class, lab::outlierShare);
  }

  private static void promise33() {
    ForecastLab lab = with("l1 m2 d3 t4 s5 m9 d9 s1");
    Check.answers("33 prophets alone", true, lab::isConsistent);
    for (int day = 0; day < 30; day++) {
      for (int series = 0; series < 4; series++) lab.observe(series, (day * 613 + series * 71) % 1000);
      Check.answers("33 day " + day, true, lab::isConsistent);
    }
    lab.undo();
    Check.answers("33 undone", true, lab::isConsistent);
    lab.forget(2);
    Check.answers("33 forgotten", true, lab::isConsistent);
  }
}
