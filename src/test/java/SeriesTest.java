import java.util.NoSuchElementException;

/** Promises 1 and 3 to 18: values, and the properties of series. */
public final class SeriesTest {
  private static final Class<IndexOutOfBoundsException> NO_INDEX = IndexOutOfBoundsException.class;
  private static final Class<IllegalArgumentException> BAD_ARGUMENT = IllegalArgumentException.class;
  private static final Class<IllegalStateException> BAD_STATE = IllegalStateException.class;
  private static final Class<NoSuchElementException> NO_ELEMENT = NoSuchElementException.class;
  private static final int[] NO_SERIES = {-1, 4, 5, Integer.MIN_VALUE, Integer.MAX_VALUE};

  public static void main(String[] args) {
    promise01();
    promise03();
    promise04();
    promise05();
    promise06();
    promise07();
    promise08();
    promises09And10();
    promises11And12();
    promise13();
    promise14();
    promise15();
    promise16();
    promise17();
    promise18();
    Check.end("SeriesTest");
  }

  private static ForecastLab with(int series, int... values) {
    ForecastLab lab = new ForecastLab();
    for (int value : values) lab.observe(series, value);
    return lab;
  }

  private static ForecastLab full(int series) {
    ForecastLab lab = new ForecastLab();
    for (int day = 0; day < 30; day++) lab.observe(series, day * 37 % 101);
    return lab;
  }

  private static void promise01() {
    ForecastLab lab = new ForecastLab();
    Check.answers("1 prophets", 0, lab::prophets);
    Check.answers("1 limit", 3, lab::limit);
    for (int series = 0; series < 4; series++) {
      int s = series;
      Check.answers("1 days", 0, () -> lab.days(s));
    }
    Check.answers("1 consistent", true, lab::isConsistent);
    Check.fails(lab, "1 line", NO_INDEX, () -> lab.charAt(0));
    Check.fails(lab, "1 error position", NO_ELEMENT, lab::errorPosition);
    Check.fails(lab, "1 failed command", NO_ELEMENT, lab::failedCommand);
    Check.fails(lab, "1 undo", BAD_STATE, lab::undo);
    Check.fails(lab, "1 restore", BAD_STATE, lab::restore);
    Check.answers("1 empty buffer", 1, () -> lab.type('p'));
  }

  private static void promise03() {
    ForecastLab lab = new ForecastLab();
    for (int day = 0; day < 30; day++) {
      int d = day;
      Check.answers("3 day " + day, day, () -> lab.observe(3, d == 0 ? 0 : d == 29 ? 999 : d));
    }
    Check.answers("3 smallest", 0, () -> lab.value(3, 0));
    Check.answers("3 greatest", 999, () -> lab.value(3, 29));
    Check.fails(lab, "3 full", BAD_STATE, () -> lab.observe(3, 5));
    Check.fails(lab, "3 full, value first", BAD_ARGUMENT, () -> lab.observe(3, 1000));
    Check.fails(lab, "3 value too small", BAD_ARGUMENT, () -> lab.observe(0, -1));
    Check.fails(lab, "3 value too great", BAD_ARGUMENT, () -> lab.observe(0, 1000));
    Check.fails(lab, "3 value far too small", BAD_ARGUMENT, () -> lab.observe(0, Integer.MIN_VALUE));
    for (int series : NO_SERIES) {
      Check.fails(lab, "3 series", NO_INDEX, () -> lab.observe(series, 5));
      Check.fails(lab, "3 series first", NO_INDEX, () -> lab.observe(series, 1000));
    }
    Check.answers("3 the other series are empty", 0, () -> lab.observe(0, 1));
  }

  private static void promise04() {
    ForecastLab lab = with(0, 10, 12, 17, 22, 20, 90);
    Check.answers("4 first", 3, () -> lab.setLimit(9));
    Check.answers("4 then", 9, () -> lab.setLimit(1));
    Check.answers("4 same", 1, () -> lab.setLimit(1));
    Check.answers("4 undo same", 7, lab::undo);
    Check.answers("4 stands", 1, lab::limit);
    for (int limit : new int[] {0, 10, -1, Integer.MIN_VALUE, Integer.MAX_VALUE}) {
      Check.fails(lab, "4 limit " + limit, BAD_ARGUMENT, () -> lab.setLimit(limit));
    }
  }

  private static void promise05() {
    ForecastLab lab = new ForecastLab();
    lab.addProphet('l', 1);
    for (int value : new int[] {5, 7, 9}) {
      lab.observe(1, value);
      lab.observe(2, value);
    }
    Check.answers("5 three", 3, () -> lab.forget(1));
    Check.answers("5 days", 0, () -> lab.days(1));
    Check.answers("5 errors", 0, () -> lab.errors(0, 1));
    Check.answers("5 error sum", 0.0, () -> lab.errorSum(0, 1));
    Check.answers("5 points", 0, () -> lab.points(0, 1));
    Check.answers("5 other days", 3, () -> lab.days(2));
    Check.answers("5 other errors", 2, () -> lab.errors(0, 2));
    Check.answers("5 other sum", 4.0, () -> lab.errorSum(0, 2));
    Check.answers("5 other points", 2, () -> lab.points(0, 2));
    Check.answers("5 none", 0, () -> lab.forget(1));
    Check.answers("5 begins again", 0, () -> lab.observe(1, 8));
    Check.fails(lab, "5 old value", NO_ELEMENT, () -> lab.value(1, 1));
    for (int series : NO_SERIES) Check.fails(lab, "5 series", NO_INDEX, () -> lab.forget(series));
    ForecastLab many = full(0);
    Check.answers("5 thirty", 30, () -> many.forget(0));
  }

  private static void promise06() {
    ForecastLab lab = with(2, 1, 2, 3);
    Check.answers("6 days", 3, () -> lab.days(2));
    Check.answers("6 none", 0, () -> lab.days(1));
    Check.answers("6 full", 30, () -> full(0).days(0));
    for (int series : NO_SERIES) Check.fails(lab, "6 series", NO_INDEX, () -> lab.days(series));
  }

  private static void promise07() {
    ForecastLab lab = with(1, 40, 0, 999);
    Check.answers("7 first", 40, () -> lab.value(1, 0));
    Check.answers("7 second", 0, () -> lab.value(1, 1));
    Check.answers("7 last", 999, () -> lab.value(1, 2));
    for (int day : new int[] {-1, 3, 30, Integer.MIN_VALUE, Integer.MAX_VALUE}) {
      Check.fails(lab, "7 day", NO_ELEMENT, () -> lab.value(1, day));
      Check.fails(lab, "7 series first", NO_INDEX, () -> lab.value(4, day));
    }
    ForecastLab many = full(3);
    Check.answers("7 day 29", 29 * 37 % 101, () -> many.value(3, 29));
    Check.fails(many, "7 day 30", NO_ELEMENT, () -> many.value(3, 30));
    for (int series : NO_SERIES) Check.fails(lab, "7 series", NO_INDEX, () -> lab.value(series, 0));
  }

  private static void promise08() {
    ForecastLab lab = with(0, 5, 2, 9, 7);
    Check.answers("8 range", 7, () -> lab.range(0));
    Check.answers("8 one value", 0, () -> with(0, 44).range(0));
    Check.answers("8 widest", 999, () -> with(3, 999, 5, 0).range(3));
    Check.answers("8 first is smallest", 8, () -> with(3, 1, 9).range(3));
    Check.fails(lab, "8 no values", NO_ELEMENT, () -> lab.range(1));
    for (int series : NO_SERIES) Check.fails(lab, "8 series", NO_INDEX, () -> lab.range(series));
  }

  private static void promises09And10() {
    ForecastLab lab = with(0, 10, 20, 40, 41);
    double[] due = {41.0, 81.0 / 2.0, 101.0 / 3.0, 111.0 / 4.0};
    for (int count = 1; count <= 4; count++) {
      int c = count;
      Check.answers("9 mean of " + count, due[c - 1], () -> lab.movingAverage(0, c));
      Check.answers("10 mean of " + count, due[c - 1], () -> lab.movingAverageBySums(0, c));
    }
    ForecastLab many = full(2);
    int sum = 0;
    for (int day = 0; day < 30; day++) sum += day * 37 % 101;
    double all = (double) sum / 30.0;
    Check.answers("9 thirty", all, () -> many.movingAverage(2, 30));
    Check.answers("10 thirty", all, () -> many.movingAverageBySums(2, 30));
    for (int count : new int[] {0, -1, 31, Integer.MIN_VALUE, Integer.MAX_VALUE}) {
      Check.fails(lab, "9 count", BAD_ARGUMENT, () -> lab.movingAverage(0, count));
      Check.fails(lab, "9 count, no values", BAD_ARGUMENT, () -> lab.movingAverage(1, count));
      Check.fails(lab, "10 count", BAD_ARGUMENT, () -> lab.movingAverageBySums(0, count));
      Check.fails(lab, "10 count, no values", BAD_ARGUMENT, () -> lab.movingAverageBySums(1, count));
    }
    for (int count : new int[] {5, 6, 30}) {
      Check.fails(lab, "9 fewer", NO_ELEMENT, () -> lab.movingAverage(0, count));
      Check.fails(lab, "10 fewer", NO_ELEMENT, () -> lab.movingAverageBySums(0, count));
    }
    for (int series : NO_SERIES) {
      Check.fails(lab, "9 series", NO_INDEX, () -> lab.movingAverage(series, 31));
      Check.fails(lab, "10 series", NO_INDEX, () -> lab.movingAverageBySums(series, 31));
    }
  }

  private static void promises11And12() {
    ForecastLab lab = with(1, 9, 3, 7, 7, 1, 5);
    int[] due = {5, 1, 5, 5, 5, 5};
    for (int count = 1; count <= 6; count++) {
      int c = count;
      Check.answers("11 median of " + count, due[c - 1], () -> lab.median(1, c));
      Check.answers("12 median of " + count, due[c - 1], () -> lab.medianByCounting(1, c));
    }
    Check.answers("11 equal", 4, () -> with(0, 4, 4, 4, 9).median(0, 4));
    Check.answers("12 equal", 4, () -> with(0, 4, 4, 4, 9).medianByCounting(0, 4));
    Check.answers("11 smaller of two", 0, () -> with(0, 999, 0).median(0, 2));
    Check.answers("12 smaller of two", 0, () -> with(0, 999, 0).medianByCounting(0, 2));
    Check.answers("11 neighbours", 5, () -> with(0, 4, 5, 5).median(0, 3));
    Check.answers("12 neighbours", 5, () -> with(0, 4, 5, 5).medianByCounting(0, 3));
    ForecastLab falling = new ForecastLab();
    for (int day = 0; day < 30; day++) falling.observe(0, 30 - day);
    Check.answers("11 thirty", 15, () -> falling.median(0, 30));
    Check.answers("12 thirty", 15, () -> falling.medianByCounting(0, 30));
    Check.answers("11 leaves the order", 30, () -> falling.value(0, 0));
    for (int count : new int[] {0, -1, 31, Integer.MIN_VALUE, Integer.MAX_VALUE}) {
      Check.fails(lab, "11 count", BAD_ARGUMENT, () -> lab.median(1, count));
      Check.fails(lab, "11 count, no values", BAD_ARGUMENT, () -> lab.median(0, count));
      Check.fails(lab, "12 count", BAD_ARGUMENT, () -> lab.medianByCounting(1, count));
      Check.fails(lab, "12 count, no values", BAD_ARGUMENT, () -> lab.medianByCounting(0, count));
    }
    for (int count : new int[] {7, 30}) {
      Check.fails(lab, "11 fewer", NO_ELEMENT, () -> lab.median(1, count));
      Check.fails(lab, "12 fewer", NO_ELEMENT, () -> lab.medianByCounting(1, count));
    }
    for (int series : NO_SERIES) {
      Check.fails(lab, "11 series", NO_INDEX, () -> lab.median(series, 31));
      Check.fails(lab, "12 series", NO_INDEX, () -> lab.medianByCounting(series, 31));
    }
  }

  private static void promise13() {
    ForecastLab lab = with(0, 10, 12, 17, 22, 20, 90);
    Check.answers("13 first value alone", 7.0, () -> with(0, 7).smoothed(0, 9));
    for (int parameter = 1; parameter <= 9; parameter++) {
      int p = parameter;
      double level = 10.0;
      for (int day = 1; day < 6; day++) level = level + p * (lab.value(0, day) - level) / 10.0;
      Check.answers("13 level " + p, level, () -> lab.smoothed(0, p));
    }
    // With the quotient before the product these two would differ in the last bits.
    Check.answers("13 product first", 3.0 * 1.0 / 10.0, () -> with(0, 0, 1).smoothed(0, 3));
    Check.answers("13 product first", 7.0 * 1.0 / 10.0, () -> with(0, 0, 1).smoothed(0, 7));
    for (int parameter : new int[] {0, 10, -1, Integer.MIN_VALUE, Integer.MAX_VALUE}) {
      Check.fails(lab, "13 parameter", BAD_ARGUMENT, () -> lab.smoothed(0, parameter));
      Check.fails(lab, "13 parameter, no values", BAD_ARGUMENT, () -> lab.smoothed(1, parameter));
      Check.fails(lab, "13 series first", NO_INDEX, () -> lab.smoothed(4, parameter));
    }
    Check.fails(lab, "13 no values", NO_ELEMENT, () -> lab.smoothed(1, 5));
    for (int series : NO_SERIES) Check.fails(lab, "13 series", NO_INDEX, () -> lab.smoothed(series, 5));
  }

  private static void promise14() {
    ForecastLab lab = with(0, 10, 12, 17, 22, 20, 90);
    Check.answers("14 far away", true, () -> lab.isOutlier(0, 5));
    for (int day = 0; day < 5; day++) {
      int d = day;
      Check.answers("14 first five days", false, () -> lab.isOutlier(0, d));
    }
    Check.answers("14 a leap on day 4", false, () -> with(0, 1, 1, 1, 1, 900).isOutlier(0, 4));
    // m = 10, and d = 1 in place of 0.
    Check.answers("14 at the limit", false, () -> with(0, 10, 10, 10, 10, 10, 13).isOutlier(0, 5));
    Check.answers("14 over the limit", true, () -> with(0, 10, 10, 10, 10, 10, 14).isOutlier(0, 5));
    Check.answers("14 below, at the limit", false, () -> with(0, 10, 10, 10, 10, 10, 7).isOutlier(0, 5));
    Check.answers("14 below, over the limit", true, () -> with(0, 10, 10, 10, 10, 10, 6).isOutlier(0, 5));
    // m = 30, and the distances 20, 10, 0, 10, 20 have the median d = 10.
    Check.answers("14 at thrice d", false, () -> with(0, 10, 20, 30, 40, 50, 60).isOutlier(0, 5));
    Check.answers("14 over thrice d", true, () -> with(0, 50, 10, 40, 20, 30, 61).isOutlier(0, 5));
    ForecastLab later = with(2, 500, 10, 10, 10, 10, 10, 14, 10);
    Check.answers("14 the five days before", true, () -> later.isOutlier(2, 6));
    Check.answers("14 on day 7", false, () -> later.isOutlier(2, 7));
    later.setLimit(4);
    Check.answers("14 the limit of now", false, () -> later.isOutlier(2, 6));
    later.setLimit(1);
    Check.answers("14 the limit of now", true, () -> later.isOutlier(2, 6));
    for (int day : new int[] {-1, 6, 30, Integer.MIN_VALUE, Integer.MAX_VALUE}) {
      Check.fails(lab, "14 day", NO_ELEMENT, () -> lab.isOutlier(0, day));
      Check.fails(lab, "14 series first", NO_INDEX, () -> lab.isOutlier(4, day));
    }
    for (int series : NO_SERIES) Check.fails(lab, "14 series", NO_INDEX, () -> lab.isOutlier(series, 0));
  }

  private static void promise15() {
    ForecastLab lab = with(3, 10, 10, 10, 10, 10, 14, 10, 6, 10, 10);
    Check.answers("15 outliers", 2, () -> lab.outliers(3));
    lab.setLimit(9);
    Check.answers("15 the limit of now", 0, () -> lab.outliers(3));
    Check.answers("15 none", 0, () -> lab.outliers(0));
    Check.answers("15 last day counts", 1, () -> with(0, 1, 1, 1, 1, 1, 9).outliers(0));
    for (int series : NO_SERIES) Check.fails(lab, "15 series", NO_INDEX, () -> lab.outliers(series));
  }

  private static void promise16() {
    Check.answers("16 none", 0, () -> new ForecastLab().longestRise(0));
    Check.answers("16 one", 1, () -> with(0, 7).longestRise(0));
    Check.answers("16 falling", 1, () -> with(0, 9, 8, 7).longestRise(0));
    Check.answers("16 equal", 1, () -> with(0, 8, 8, 8).longestRise(0));
    Check.answers("16 in the middle", 3, () -> with(1, 5, 2, 3, 4, 4, 5).longestRise(1));
    Check.answers("16 at the end", 4, () -> with(1, 1, 2, 0, 3, 5, 6).longestRise(1));
    ForecastLab rising = new ForecastLab();
    for (int day = 0; day < 30; day++) rising.observe(2, day * 30);
    Check.answers("16 thirty", 30, () -> rising.longestRise(2));
    for (int series : NO_SERIES) Check.fails(rising, "16 series", NO_INDEX, () -> rising.longestRise(series));
  }

  private static void promise17() {
    ForecastLab lab = with(1, 5, 6, 9, 8, 9, 10);
    Check.answers("17 both ends count", 4, () -> lab.valuesBetween(1, 6, 9));
    Check.answers("17 one value", 2, () -> lab.valuesBetween(1, 9, 9));
    Check.answers("17 high less than low", 0, () -> lab.valuesBetween(1, 9, 6));
    Check.answers("17 all", 6, () -> lab.valuesBetween(1, Integer.MIN_VALUE, Integer.MAX_VALUE));
    Check.answers("17 none", 0, () -> lab.valuesBetween(1, Integer.MAX_VALUE, Integer.MIN_VALUE));
    Check.answers("17 no values", 0, () -> lab.valuesBetween(0, 0, 999));
    for (int series : NO_SERIES) Check.fails(lab, "17 series", NO_INDEX, () -> lab.valuesBetween(series, 9, 6));
  }

  private static void promise18() {
    ForecastLab lab = new ForecastLab();
    Check.answers("18 first", 3, lab::limit);
    for (int limit = 1; limit <= 9; limit++) {
      lab.setLimit(limit);
      Check.answers("18 set", limit, lab::limit);
    }
  }
}
