import java.util.Arrays;

/** Promises 6 to 18: the properties of series. */
public final class SeriesTest extends Check {
  /** A call with a series and a number of values. */
  private interface Counting {
    Object of(Lab lab, int series, int count);
  }

  public static void main(String[] args) {
    runAll(SeriesTest.class);
  }

  private static int valueOn(int day) {
    return day * 37 % 101;
  }

  /** A laboratory whose series has these first values of valueOn. */
  private static Lab with(int series, int days) {
    Lab lab = new Lab();
    for (int day = 0; day < days; day++) lab.observe(series, valueOn(day));
    return lab;
  }

  /** Every value from day 5 on is an outlier, at each limit. */
  private static Lab alternating(int series) {
    Lab lab = new Lab();
    for (int day = 0; day < 30; day++) lab.observe(series, day % 2 == 0 ? 100 : 999);
    return lab;
  }

  private static Lab rising(int series, int days) {
    Lab lab = new Lab();
    for (int day = 0; day < days; day++) lab.observe(series, day * 30);
    return lab;
  }

  // ---- 6: days

  @Says({"Returns the number of values of a series.", "Returns the number of values.", "A series has at most 30 values"})
  static void promise06CountsFrom0To30() {
    Lab lab = new Lab();
    answers(0, () -> lab.days(1));
    for (int day = 1; day <= 30; day++) {
      int d = day;
      lab.observe(1, 5);
      answers(d, () -> lab.days(1));
    }
    refuses(lab, BAD_STATE, () -> lab.observe(1, 5));
    answers(30, () -> lab.days(1));
    lab.undo();
    answers(29, () -> lab.days(1));
    lab.forget(1);
    answers(0, () -> lab.days(1));
  }

  @Says("`series`: the series")
  static void promise06TakesTheSeries0To3() {
    Lab lab = new Lab().see(0, 1).see(1, 1, 2).see(2, 1, 2, 3).see(3, 1, 2, 3, 4);
    for (int series = 0; series < 4; series++) {
      int s = series;
      answers(s + 1, () -> lab.days(s));
    }
  }

  @Says("Throws `IndexOutOfBoundsException` if there is no such series")
  static void promise06RefusesTheSeriesMinus1And4() {
    Lab empty = new Lab();
    refusesNoSuchSeries(empty, empty::days);
    Lab lab = with(3, 30);
    refusesNoSuchSeries(lab, lab::days);
  }

  // ---- 7: value

  @Says({"Returns the value of a day.", "`day`: the day", "Returns the value."})
  static void promise07AnswersTheFirstAndTheLastDay() {
    Lab lab = new Lab().see(1, 40, 0, 999);
    answers(40, () -> lab.value(1, 0));
    answers(0, () -> lab.value(1, 1));
    answers(999, () -> lab.value(1, 2));
    Lab full = with(3, 30);
    answers(valueOn(0), () -> full.value(3, 0));
    answers(valueOn(28), () -> full.value(3, 28));
    answers(valueOn(29), () -> full.value(3, 29));
  }

  @Says("`series`: the series")
  static void promise07TakesTheSeries0To3() {
    Lab lab = new Lab().see(0, 5).see(1, 6).see(2, 7).see(3, 8);
    for (int series = 0; series < 4; series++) {
      int s = series;
      answers(5 + s, () -> lab.value(s, 0));
    }
  }

  @Says("Throws `NoSuchElementException` if the series has no value for this day")
  static void promise07RefusesTheDayBeforeTheFirst() {
    for (int days : new int[] {0, 1, 30}) {
      Lab lab = with(2, days);
      refuses(lab, NO_ELEMENT, () -> lab.value(2, -1));
      refuses(lab, NO_ELEMENT, () -> lab.value(2, Integer.MIN_VALUE));
    }
  }

  @Says("Throws `NoSuchElementException` if the series has no value for this day")
  static void promise07RefusesTheDayAfterTheLast() {
    for (int days : new int[] {0, 1, 2, 29, 30}) {
      Lab lab = with(2, days);
      refuses(lab, NO_ELEMENT, () -> lab.value(2, days));
      refuses(lab, NO_ELEMENT, () -> lab.value(2, days + 1));
      refuses(lab, NO_ELEMENT, () -> lab.value(2, 30));
      refuses(lab, NO_ELEMENT, () -> lab.value(2, Integer.MAX_VALUE));
    }
  }

  @Says("Throws `NoSuchElementException` if the series has no value for this day")
  static void promise07RefusesADayThatIsGone() {
    Lab lab = with(2, 3);
    lab.undo();
    refuses(lab, NO_ELEMENT, () -> lab.value(2, 2));
    answers(valueOn(1), () -> lab.value(2, 1));
    lab.forget(2);
    refuses(lab, NO_ELEMENT, () -> lab.value(2, 1));
    refuses(lab, NO_ELEMENT, () -> lab.value(2, 0));
  }

  @Says({"Throws `IndexOutOfBoundsException` if there is no such series", "the exception that is listed first is thrown"})
  static void promise07TestsTheSeriesFirst() {
    Lab lab = with(0, 2);
    refusesNoSuchSeries(lab, series -> lab.value(series, 0));
    refusesNoSuchSeries(lab, series -> lab.value(series, -1));
    refusesNoSuchSeries(lab, series -> lab.value(series, 30));
  }

  // ---- 8: range

  @Says({"Returns the difference of the greatest and the smallest value of a series.", "Returns the difference."})
  static void promise08AnswersFrom0To999() {
    answers(0, () -> new Lab().see(0, 44).range(0));
    answers(0, () -> new Lab().see(0, 999).range(0));
    answers(0, () -> new Lab().see(0, 44, 44, 44).range(0));
    answers(999, () -> new Lab().see(0, 999, 5, 0).range(0));
    answers(999, () -> new Lab().see(0, 0, 5, 999).range(0));
    answers(8, () -> new Lab().see(0, 5, 1, 9, 7).range(0));
  }

  @Says("Returns the difference of the greatest and the smallest value of a series.")
  static void promise08CountsAllThirtyDays() {
    answers(50, () -> new Lab().see(2, 60).seeTimes(2, 29, 10).range(2));
    answers(50, () -> new Lab().seeTimes(2, 29, 10).see(2, 60).range(2));
    answers(9, () -> new Lab().seeTimes(2, 29, 10).see(2, 1).range(2));
    answers(9, () -> new Lab().see(2, 1).seeTimes(2, 29, 10).range(2));
  }

  @Says("`series`: the series")
  static void promise08TakesTheSeries0To3() {
    Lab lab = new Lab().see(0, 5, 5).see(1, 5, 6).see(2, 7, 5).see(3, 5, 8);
    for (int series = 0; series < 4; series++) {
      int s = series;
      answers(s, () -> lab.range(s));
    }
  }

  @Says("Throws `NoSuchElementException` if the series has no values")
  static void promise08RefusesAnEmptySeries() {
    Lab lab = with(0, 3);
    refuses(lab, NO_ELEMENT, () -> lab.range(1));
    lab.forget(0);
    refuses(lab, NO_ELEMENT, () -> lab.range(0));
    lab.see(0, 3);
    answers(0, () -> lab.range(0));
  }

  @Says({"Throws `IndexOutOfBoundsException` if there is no such series", "the exception that is listed first is thrown"})
  static void promise08TestsTheSeriesFirst() {
    Lab empty = new Lab();
    refusesNoSuchSeries(empty, empty::range);
    Lab lab = with(3, 30);
    refusesNoSuchSeries(lab, lab::range);
  }

  // ---- 9 to 12: means and medians of the last values

  private static void answersMeans(Counting mean) {
    for (int days : new int[] {1, 2, 5, 29, 30}) {
      Lab lab = with(1, days);
      int sum = 0;
      for (int count = 1; count <= days; count++) {
        sum += valueOn(days - count);
        int c = count;
        answers((double) sum / (double) count, () -> mean.of(lab, 1, c));
      }
    }
  }

  private static void answersMedians(Counting median) {
    for (int days : new int[] {1, 2, 3, 4, 5, 29, 30}) {
      Lab lab = with(1, days);
      for (int count = 1; count <= days; count++) {
        int[] last = new int[count];
        for (int i = 0; i < count; i++) last[i] = valueOn(days - 1 - i);
        Arrays.sort(last);
        int c = count;
        answers(last[(count - 1) / 2], () -> median.of(lab, 1, c));
      }
    }
  }

  private static void takesTheSeries0To3(Counting call, Object... due) {
    Lab lab = new Lab().see(0, 5).see(1, 6).see(2, 7).see(3, 8);
    for (int series = 0; series < 4; series++) {
      int s = series;
      answers(due[s], () -> call.of(lab, s, 1));
    }
  }

  private static void refusesTheCounts0And31(Counting call) {
    for (int days : new int[] {0, 5, 30}) {
      Lab lab = with(1, days);
      for (int count : new int[] {0, 31, -1, 32, Integer.MIN_VALUE, Integer.MAX_VALUE}) {
        refuses(lab, BAD_ARGUMENT, () -> call.of(lab, 1, count));
      }
    }
  }

  private static void refusesMoreThanThereAre(Counting call) {
    for (int days : new int[] {0, 1, 2, 5, 28, 29}) {
      Lab lab = with(1, days);
      refuses(lab, NO_ELEMENT, () -> call.of(lab, 1, days + 1));
      refuses(lab, NO_ELEMENT, () -> call.of(lab, 1, 30));
      answers(false, () -> days > 0 && outcome(() -> call.of(lab, 1, days)) == NO_ELEMENT);
    }
  }

  private static void refusesWhatIsGone(Counting call) {
    Lab lab = with(1, 4);
    lab.undo();
    refuses(lab, NO_ELEMENT, () -> call.of(lab, 1, 4));
    lab.forget(1);
    refuses(lab, NO_ELEMENT, () -> call.of(lab, 1, 1));
  }

  private static void testsTheSeriesFirst(Counting call) {
    Lab lab = with(0, 3);
    for (int count : new int[] {1, 4, 0, 31}) {
      refusesNoSuchSeries(lab, series -> call.of(lab, series, count));
    }
  }

  private static void changesNothing(Counting call) {
    Lab lab = with(1, 7);
    String before = View.of(lab);
    for (int count = 1; count <= 7; count++) call.of(lab, 1, count);
    same(before, View.of(lab));
  }

  @Says({"Returns the mean of the last values of a series, by adding them", "the number of values, 1 to 30",
      "Returns the mean.", "The last k values of a series are those of its k latest days."})
  static void promise09AnswersForTheCounts1To30() {
    answersMeans(Lab::movingAverage);
  }

  @Says("their sum divided by their number, both converted to double")
  static void promise09DividesAsDoubles() {
    answers(0.5, () -> new Lab().see(0, 0, 1).movingAverage(0, 2));
    answers(0.0, () -> new Lab().see(0, 0, 0).movingAverage(0, 2));
    answers(2.0 / 3.0, () -> new Lab().see(0, 1, 0, 1).movingAverage(0, 3));
    answers(999.0, () -> new Lab().seeTimes(0, 30, 999).movingAverage(0, 30));
  }

  @Says("`series`: the series")
  static void promise09TakesTheSeries0To3() {
    takesTheSeries0To3(Lab::movingAverage, 5.0, 6.0, 7.0, 8.0);
  }

  @Says("Throws `IllegalArgumentException` if the number is out of range")
  static void promise09RefusesTheCounts0And31() {
    refusesTheCounts0And31(Lab::movingAverage);
  }

  @Says("Throws `NoSuchElementException` if the series has fewer values")
  static void promise09RefusesMoreThanThereAre() {
    refusesMoreThanThereAre(Lab::movingAverage);
    refusesWhatIsGone(Lab::movingAverage);
  }

  @Says({"Throws `IndexOutOfBoundsException` if there is no such series", "the exception that is listed first is thrown"})
  static void promise09TestsTheSeriesFirst() {
    testsTheSeriesFirst(Lab::movingAverage);
  }

  @Says({"Returns the same mean, from the sums of the values up to each day.", "the number of values, 1 to 30",
      "Returns the mean.", "The last k values of a series are those of its k latest days."})
  static void promise10AnswersForTheCounts1To30() {
    answersMeans(Lab::movingAverageBySums);
  }

  @Says("Returns the same mean, from the sums of the values up to each day.")
  static void promise10DividesAsDoubles() {
    answers(0.5, () -> new Lab().see(0, 0, 1).movingAverageBySums(0, 2));
    answers(0.0, () -> new Lab().see(0, 0, 0).movingAverageBySums(0, 2));
    answers(2.0 / 3.0, () -> new Lab().see(0, 1, 0, 1).movingAverageBySums(0, 3));
    answers(999.0, () -> new Lab().seeTimes(0, 30, 999).movingAverageBySums(0, 30));
  }

  @Says("Returns the same mean, from the sums of the values up to each day.")
  static void promise10KeepsNoSumsOfOtherValues() {
    Lab lab = new Lab().see(0, 100, 200, 300).see(1, 1, 2, 3);
    answers(200.0, () -> lab.movingAverageBySums(0, 3));
    lab.undo();
    answers(1.5, () -> lab.movingAverageBySums(1, 2));
    lab.forget(0);
    lab.see(0, 4, 6);
    answers(5.0, () -> lab.movingAverageBySums(0, 2));
  }

  @Says("`series`: the series")
  static void promise10TakesTheSeries0To3() {
    takesTheSeries0To3(Lab::movingAverageBySums, 5.0, 6.0, 7.0, 8.0);
  }

  @Says("Throws `IllegalArgumentException` if the number is out of range")
  static void promise10RefusesTheCounts0And31() {
    refusesTheCounts0And31(Lab::movingAverageBySums);
  }

  @Says("Throws `NoSuchElementException` if the series has fewer values")
  static void promise10RefusesMoreThanThereAre() {
    refusesMoreThanThereAre(Lab::movingAverageBySums);
    refusesWhatIsGone(Lab::movingAverageBySums);
  }

  @Says({"Throws `IndexOutOfBoundsException` if there is no such series", "the exception that is listed first is thrown"})
  static void promise10TestsTheSeriesFirst() {
    testsTheSeriesFirst(Lab::movingAverageBySums);
  }

  private static void answersTheMiddle(Counting median) {
    answers(9, () -> median.of(new Lab().see(0, 9), 0, 1));
    answers(0, () -> median.of(new Lab().see(0, 999, 0), 0, 2));
    answers(0, () -> median.of(new Lab().see(0, 0, 999), 0, 2));
    answers(5, () -> median.of(new Lab().see(0, 9, 5, 1), 0, 3));
    answers(3, () -> median.of(new Lab().see(0, 9, 3, 7, 1), 0, 4));
    answers(5, () -> median.of(new Lab().see(0, 9, 3, 7, 1, 5), 0, 5));
    Lab falling = new Lab();
    for (int day = 0; day < 30; day++) falling.observe(0, 30 - day);
    answers(15, () -> median.of(falling, 0, 30));
    answers(15, () -> median.of(falling, 0, 29));
    answers(14, () -> median.of(falling, 0, 28));
  }

  private static void answersAmongEqualValues(Counting median) {
    answers(4, () -> median.of(new Lab().see(0, 4, 4), 0, 2));
    answers(4, () -> median.of(new Lab().see(0, 4, 4, 4, 9), 0, 4));
    answers(4, () -> median.of(new Lab().see(0, 9, 9, 4, 4), 0, 4));
    answers(5, () -> median.of(new Lab().see(0, 4, 5, 5), 0, 3));
    answers(4, () -> median.of(new Lab().see(0, 5, 4, 4), 0, 3));
    answers(5, () -> median.of(new Lab().see(0, 5, 5, 1, 9), 0, 4));
    answers(0, () -> median.of(new Lab().seeTimes(0, 15, 0).seeTimes(0, 15, 999), 0, 30));
    answers(999, () -> median.of(new Lab().seeTimes(0, 14, 0).seeTimes(0, 16, 999), 0, 30));
    answers(999, () -> median.of(new Lab().seeTimes(0, 30, 999), 0, 30));
  }

  @Says({"Returns the median of the last values of a series, by sorting them.", "the number of values, 1 to 30",
      "Returns the median.", "The last k values of a series are those of its k latest days."})
  static void promise11AnswersForTheCounts1To30() {
    answersMedians(Lab::median);
  }

  @Says("The median of k numbers is the number at the index (k - 1) / 2, rounded down")
  static void promise11RoundsTheIndexDown() {
    answersTheMiddle(Lab::median);
  }

  @Says("when they are sorted in ascending order and indices are counted from 0")
  static void promise11AnswersAmongEqualValues() {
    answersAmongEqualValues(Lab::median);
  }

  @Says("Returns the median of the last values of a series, by sorting them.")
  static void promise11LeavesTheOrderOfTheDays() {
    changesNothing(Lab::median);
  }

  @Says("`series`: the series")
  static void promise11TakesTheSeries0To3() {
    takesTheSeries0To3(Lab::median, 5, 6, 7, 8);
  }

  @Says("Throws `IllegalArgumentException` if the number is out of range")
  static void promise11RefusesTheCounts0And31() {
    refusesTheCounts0And31(Lab::median);
  }

  @Says("Throws `NoSuchElementException` if the series has fewer values")
  static void promise11RefusesMoreThanThereAre() {
    refusesMoreThanThereAre(Lab::median);
    refusesWhatIsGone(Lab::median);
  }

  @Says({"Throws `IndexOutOfBoundsException` if there is no such series", "the exception that is listed first is thrown"})
  static void promise11TestsTheSeriesFirst() {
    testsTheSeriesFirst(Lab::median);
  }

  @Says({"Returns the same median, by counting for each value how many are smaller and how many are equal.",
      "the number of values, 1 to 30", "Returns the median."})
  static void promise12AnswersForTheCounts1To30() {
    answersMedians(Lab::medianByCounting);
  }

  @Says("The median of k numbers is the number at the index (k - 1) / 2, rounded down")
  static void promise12RoundsTheIndexDown() {
    answersTheMiddle(Lab::medianByCounting);
  }

  @Says("by counting for each value how many are smaller and how many are equal")
  static void promise12AnswersAmongEqualValues() {
    answersAmongEqualValues(Lab::medianByCounting);
  }

  @Says("Returns the same median, by counting for each value")
  static void promise12ChangesNothing() {
    changesNothing(Lab::medianByCounting);
  }

  @Says("`series`: the series")
  static void promise12TakesTheSeries0To3() {
    takesTheSeries0To3(Lab::medianByCounting, 5, 6, 7, 8);
  }

  @Says("Throws `IllegalArgumentException` if the number is out of range")
  static void promise12RefusesTheCounts0And31() {
    refusesTheCounts0And31(Lab::medianByCounting);
  }

  @Says("Throws `NoSuchElementException` if the series has fewer values")
  static void promise12RefusesMoreThanThereAre() {
    refusesMoreThanThereAre(Lab::medianByCounting);
    refusesWhatIsGone(Lab::medianByCounting);
  }

  @Says({"Throws `IndexOutOfBoundsException` if there is no such series", "the exception that is listed first is thrown"})
  static void promise12TestsTheSeriesFirst() {
    testsTheSeriesFirst(Lab::medianByCounting);
  }

  // ---- 13: smoothed

  @Says({"Returns the smoothed level of a series.", "Returns the level.", "which is the first value at first"})
  static void promise13IsTheFirstValueAtFirst() {
    for (int parameter = 1; parameter <= 9; parameter++) {
      int p = parameter;
      answers(7.0, () -> new Lab().see(0, 7).smoothed(0, p));
      answers(0.0, () -> new Lab().see(0, 0).smoothed(0, p));
      answers(999.0, () -> new Lab().see(0, 999).smoothed(0, p));
    }
  }

  @Says({"the parameter, 1 to 9", "and after each further value v the number x + p * (v - x) / 10.0"})
  static void promise13TakesTheParameters1To9() {
    Lab lab = new Lab();
    for (int parameter = 1; parameter <= 9; parameter++) lab.see(1, valueOn(parameter));
    for (int parameter = 1; parameter <= 9; parameter++) {
      int p = parameter;
      double x = valueOn(1);
      for (int day = 2; day <= 9; day++) x = x + p * (valueOn(day) - x) / 10.0;
      double due = x;
      answers(due, () -> lab.smoothed(1, p));
    }
  }

  @Says("and after each further value v the number x + p * (v - x) / 10.0")
  static void promise13TakesEachOfThirtyValues() {
    Lab lab = with(2, 30);
    double x = valueOn(0);
    for (int day = 1; day < 30; day++) x = x + 4 * (valueOn(day) - x) / 10.0;
    double due = x;
    answers(due, () -> lab.smoothed(2, 4));
    answers(100.0 + 899.0 / 10.0, () -> new Lab().see(0, 100, 999).smoothed(0, 1));
    answers(999.0 + 9 * -999.0 / 10.0, () -> new Lab().see(0, 999, 0).smoothed(0, 9));
  }

  @Says("where x is the level before, and the product is computed before the quotient")
  static void promise13ComputesTheProductFirst() {
    // With the quotient first these would differ in the last bits.
    answers(0.3, () -> new Lab().see(0, 0, 1).smoothed(0, 3));
    answers(0.7, () -> new Lab().see(0, 0, 1).smoothed(0, 7));
    same(false, 0.3 == 3 * (1 / 10.0));
    same(false, 0.7 == 7 * (1 / 10.0));
  }

  @Says("`series`: the series")
  static void promise13TakesTheSeries0To3() {
    Lab lab = new Lab().see(0, 5).see(1, 6).see(2, 7).see(3, 8);
    for (int series = 0; series < 4; series++) {
      int s = series;
      answers(5.0 + s, () -> lab.smoothed(s, 5));
    }
  }

  @Says("Throws `IllegalArgumentException` if the parameter is out of range")
  static void promise13RefusesTheParameters0And10() {
    for (int days : new int[] {0, 1, 30}) {
      Lab lab = with(1, days);
      for (int parameter : new int[] {0, 10, -1, 11, Integer.MIN_VALUE, Integer.MAX_VALUE}) {
        refuses(lab, BAD_ARGUMENT, () -> lab.smoothed(1, parameter));
      }
    }
  }

  @Says("Throws `NoSuchElementException` if the series has no values")
  static void promise13RefusesAnEmptySeries() {
    Lab lab = with(1, 3);
    refuses(lab, NO_ELEMENT, () -> lab.smoothed(0, 1));
    refuses(lab, NO_ELEMENT, () -> lab.smoothed(0, 9));
    lab.forget(1);
    refuses(lab, NO_ELEMENT, () -> lab.smoothed(1, 5));
  }

  @Says({"Throws `IndexOutOfBoundsException` if there is no such series", "the exception that is listed first is thrown"})
  static void promise13TestsTheSeriesFirst() {
    Lab lab = with(0, 3);
    for (int parameter : new int[] {1, 9, 0, 10}) {
      refusesNoSuchSeries(lab, series -> lab.smoothed(series, parameter));
    }
  }

  // ---- 14: isOutlier

  private static boolean strays(int limit, int... values) {
    Lab lab = new Lab().see(0, values);
    lab.setLimit(limit);
    return lab.isOutlier(0, values.length - 1);
  }

  @Says({"The values of the first 5 days are no outliers.", "The value of a day from 5 on is an outlier if"})
  static void promise14NoneBeforeDay5() {
    answers(false, () -> strays(1, 900));
    answers(false, () -> strays(1, 1, 900));
    answers(false, () -> strays(1, 1, 1, 900));
    answers(false, () -> strays(1, 1, 1, 1, 900));
    answers(false, () -> strays(1, 1, 1, 1, 1, 900));
    answers(true, () -> strays(1, 1, 1, 1, 1, 1, 900));
  }

  @Says({"Returns whether the value of a day is an outlier.", "Returns true if it is an outlier.",
      "is greater than the limit multiplied by d"})
  static void promise14IsGreaterThanTheLimitTimesD() {
    // m = 12, and the distances 2, 2, 0, 2, 2 have the median d = 2.
    for (int limit = 1; limit <= 9; limit++) {
      int l = limit;
      answers(false, () -> strays(l, 110, 110, 112, 114, 114, 112 + 2 * l));
      answers(true, () -> strays(l, 110, 110, 112, 114, 114, 113 + 2 * l));
      answers(false, () -> strays(l, 114, 110, 112, 114, 110, 112 - 2 * l));
      answers(true, () -> strays(l, 114, 110, 112, 114, 110, 111 - 2 * l));
    }
    answers(false, () -> strays(3, 10, 20, 30, 40, 50, 60));
    answers(true, () -> strays(3, 50, 10, 40, 20, 30, 61));
  }

  @Says("or 1 if this median is 0")
  static void promise14DIs1IfTheMedianIs0() {
    for (int limit = 1; limit <= 9; limit++) {
      int l = limit;
      answers(false, () -> strays(l, 10, 10, 10, 10, 10, 10));
      answers(false, () -> strays(l, 10, 10, 10, 10, 10, 10 + l));
      answers(true, () -> strays(l, 10, 10, 10, 10, 10, 11 + l));
      answers(false, () -> strays(l, 10, 10, 10, 10, 10, 10 - l));
      answers(true, () -> strays(l, 10, 10, 10, 10, 10, 9 - l));
      // Three equal values of five are enough.
      answers(false, () -> strays(l, 10, 900, 10, 0, 10, 10 + l));
      answers(true, () -> strays(l, 10, 900, 10, 0, 10, 11 + l));
    }
  }

  @Says("and d is the median of the distances of these 5 values from m")
  static void promise14DIsTheMiddleDistance() {
    // m = 10, and the distances 0, 0, 1, 5, 9 have the median 1; then 0, 1, 2, 5, 9 have the median 2.
    answers(false, () -> strays(3, 10, 10, 11, 15, 1, 13));
    answers(true, () -> strays(3, 10, 10, 11, 15, 1, 14));
    answers(false, () -> strays(3, 10, 9, 12, 15, 1, 15));
    answers(false, () -> strays(3, 10, 9, 12, 15, 1, 16));
    answers(true, () -> strays(3, 10, 9, 12, 15, 1, 17));
    // d = 499: nothing is that far away.
    answers(false, () -> strays(3, 0, 500, 999, 0, 999, 999));
    answers(false, () -> strays(1, 0, 500, 999, 0, 999, 999));
    answers(true, () -> strays(1, 0, 500, 999, 0, 999, 0));
  }

  private static int[] turned(int[] five, int by, int next) {
    int[] values = new int[6];
    for (int i = 0; i < 5; i++) values[i] = five[(i + by) % 5];
    values[5] = next;
    return values;
  }

  @Says({"where m is the median of the values of the 5 days before", "of the distances of these 5 values from m"})
  static void promise14EachOfTheFiveDaysCounts() {
    int[] five = {20, 10, 10, 14, 6};
    int[] steps = {10, 20, 30, 40, 50};
    for (int by = 0; by < 5; by++) {
      // m = 10 and d = 4, of the distances 10, 0, 0, 4, 4; then m = 30 and d = 10.
      int[][] inside = {turned(five, by, 22), turned(five, by, 0), turned(steps, by, 60), turned(steps, by, 0)};
      int[][] outside = {turned(five, by, 23), turned(steps, by, 61)};
      for (int[] values : inside) answers(false, () -> strays(3, values));
      for (int[] values : outside) answers(true, () -> strays(3, values));
    }
  }

  @Says("The distance of two numbers is the absolute value of their difference.")
  static void promise14CountsDistancesToBothSides() {
    answers(true, () -> strays(9, 0, 0, 0, 0, 0, 999));
    answers(true, () -> strays(9, 999, 999, 999, 999, 999, 0));
    answers(false, () -> strays(9, 0, 0, 0, 0, 0, 9));
    answers(false, () -> strays(9, 999, 999, 999, 999, 999, 990));
  }

  @Says("where m is the median of the values of the 5 days before")
  static void promise14TakesTheFiveDaysBefore() {
    Lab lab = new Lab().see(2, 500, 10, 10, 10, 500, 500, 14, 10, 10);
    // Day 5: m = 10. Day 6: of 10, 10, 10, 500, 500 m = 10. Day 7: of 10, 10, 500, 500, 14 m = 14 and d = 4.
    answers(true, () -> lab.isOutlier(2, 5));
    answers(true, () -> lab.isOutlier(2, 6));
    answers(false, () -> lab.isOutlier(2, 7));
    Lab later = new Lab().seeTimes(2, 5, 10).seeTimes(2, 3, 40);
    // Of 10, 10, 10, 40, 40 m is 10, so even the third one is an outlier; the fourth is none.
    answers(true, () -> later.isOutlier(2, 5));
    answers(true, () -> later.isOutlier(2, 6));
    answers(true, () -> later.isOutlier(2, 7));
    later.see(2, 40);
    answers(false, () -> later.isOutlier(2, 8));
  }

  @Says({"The limit is from 1 to 9", "is greater than the limit multiplied by d"})
  static void promise14TakesTheLimitOfNow() {
    Lab lab = new Lab().see(0, 10, 10, 10, 10, 10, 14);
    answers(true, () -> lab.isOutlier(0, 5));
    lab.setLimit(4);
    answers(false, () -> lab.isOutlier(0, 5));
    lab.undo();
    answers(true, () -> lab.isOutlier(0, 5));
  }

  @Says("`day`: the day")
  static void promise14TakesTheDays0To29() {
    Lab lab = alternating(1);
    lab.setLimit(9);
    for (int day = 0; day < 30; day++) {
      int d = day;
      answers(d >= 5, () -> lab.isOutlier(1, d));
    }
  }

  @Says("`series`: the series")
  static void promise14TakesTheSeries0To3() {
    Lab lab = new Lab();
    for (int series = 0; series < 4; series++) lab.see(series, 10, 10, 10, 10, 10, 12 + series);
    for (int series = 0; series < 4; series++) {
      int s = series;
      answers(s >= 2, () -> lab.isOutlier(s, 5));
    }
  }

  @Says("Throws `NoSuchElementException` if the series has no value for this day")
  static void promise14RefusesADayWithoutValue() {
    for (int days : new int[] {0, 1, 5, 6, 29, 30}) {
      Lab lab = with(2, days);
      for (int day : new int[] {-1, days, days + 1, 30, Integer.MIN_VALUE, Integer.MAX_VALUE}) {
        refuses(lab, NO_ELEMENT, () -> lab.isOutlier(2, day));
      }
    }
  }

  @Says("Throws `NoSuchElementException` if the series has no value for this day")
  static void promise14RefusesADayThatIsGone() {
    Lab lab = new Lab().see(0, 1, 1, 1, 1, 1, 9);
    answers(true, () -> lab.isOutlier(0, 5));
    lab.undo();
    refuses(lab, NO_ELEMENT, () -> lab.isOutlier(0, 5));
    lab.forget(0);
    refuses(lab, NO_ELEMENT, () -> lab.isOutlier(0, 0));
  }

  @Says({"Throws `IndexOutOfBoundsException` if there is no such series", "the exception that is listed first is thrown"})
  static void promise14TestsTheSeriesFirst() {
    Lab lab = with(0, 6);
    for (int day : new int[] {0, 5, -1, 6, 30}) {
      refusesNoSuchSeries(lab, series -> lab.isOutlier(series, day));
    }
  }

  // ---- 15: outliers

  @Says({"Returns the number of outliers of a series.", "Returns the number of outliers."})
  static void promise15CountsFrom0To25() {
    Lab lab = new Lab();
    lab.setLimit(9);
    answers(0, () -> lab.outliers(1));
    for (int day = 0; day < 30; day++) {
      int due = Math.max(0, day - 4);
      lab.observe(1, day % 2 == 0 ? 100 : 999);
      answers(due, () -> lab.outliers(1));
    }
  }

  @Says("The values of the first 5 days are no outliers.")
  static void promise15CountsNoneOfFiveValues() {
    answers(0, () -> new Lab().see(0, 1, 999, 1, 1, 999).outliers(0));
    answers(1, () -> new Lab().see(0, 1, 1, 1, 1, 1, 999).outliers(0));
    answers(0, () -> new Lab().seeTimes(0, 30, 5).outliers(0));
  }

  @Says("Returns the number of outliers of a series.")
  static void promise15TakesTheLimitOfNow() {
    Lab lab = new Lab().see(3, 10, 10, 10, 10, 10, 14, 10, 6, 10, 19);
    answers(3, () -> lab.outliers(3));
    lab.setLimit(4);
    answers(1, () -> lab.outliers(3));
    lab.setLimit(9);
    answers(0, () -> lab.outliers(3));
    lab.setLimit(8);
    answers(1, () -> lab.outliers(3));
  }

  @Says("`series`: the series")
  static void promise15TakesTheSeries0To3() {
    Lab lab = new Lab();
    for (int series = 0; series < 4; series++) lab.seeTimes(series, 8, 10).seeTimes(series, series, 99);
    for (int series = 0; series < 4; series++) {
      int s = series;
      answers(s, () -> lab.outliers(s));
    }
  }

  @Says("Throws `IndexOutOfBoundsException` if there is no such series")
  static void promise15RefusesTheSeriesMinus1And4() {
    Lab empty = new Lab();
    refusesNoSuchSeries(empty, empty::outliers);
    Lab full = alternating(3);
    refusesNoSuchSeries(full, full::outliers);
  }

  // ---- 16: longestRise

  @Says("0 without values")
  static void promise16Is0WithoutValues() {
    Lab lab = new Lab();
    for (int series = 0; series < 4; series++) {
      int s = series;
      answers(0, () -> lab.longestRise(s));
    }
    lab.see(2, 1, 2, 3);
    lab.forget(2);
    answers(0, () -> lab.longestRise(2));
  }

  @Says("1 if no value is greater than the one of the day before")
  static void promise16Is1WithoutARise() {
    answers(1, () -> new Lab().see(0, 7).longestRise(0));
    answers(1, () -> new Lab().see(0, 0).longestRise(0));
    answers(1, () -> new Lab().see(0, 9, 8, 7).longestRise(0));
    answers(1, () -> new Lab().see(0, 8, 8).longestRise(0));
    answers(1, () -> new Lab().seeTimes(0, 30, 8).longestRise(0));
    answers(2, () -> new Lab().see(0, 8, 9).longestRise(0));
    answers(2, () -> new Lab().see(0, 0, 1).longestRise(0));
  }

  @Says({"Returns the length of the longest sequence of consecutive days on which the values increase from day to day.",
      "Returns the number of days"})
  static void promise16AnswersTheLongestOfSeveral() {
    answers(3, () -> new Lab().see(0, 5, 2, 3, 4, 4, 5).longestRise(0));
    answers(3, () -> new Lab().see(0, 1, 2, 3, 1, 2).longestRise(0));
    answers(4, () -> new Lab().see(0, 1, 2, 0, 3, 5, 6).longestRise(0));
    answers(2, () -> new Lab().see(0, 1, 2, 2, 3, 3, 4).longestRise(0));
    answers(3, () -> new Lab().see(0, 5, 6, 5, 6, 7, 0, 999).longestRise(0));
  }

  @Says("Returns the length of the longest sequence of consecutive days")
  static void promise16CountsUpTo30() {
    answers(30, () -> rising(2, 30).longestRise(2));
    answers(29, () -> rising(2, 29).longestRise(2));
    answers(29, () -> rising(2, 29).see(2, 28 * 30).longestRise(2));
    answers(29, () -> new Lab().see(2, 5).see(2, 0, 1, 2, 3, 4, 5, 6, 7, 8, 9, 10, 11, 12, 13, 14, 15, 16, 17, 18, 19,
        20, 21, 22, 23, 24, 25, 26, 27, 28).longestRise(2));
  }

  @Says("`series`: the series")
  static void promise16TakesTheSeries0To3() {
    Lab lab = new Lab().see(0, 1).see(1, 1, 2).see(2, 1, 2, 3).see(3, 1, 2, 3, 4);
    for (int series = 0; series < 4; series++) {
      int s = series;
      answers(s + 1, () -> lab.longestRise(s));
    }
  }

  @Says("Throws `IndexOutOfBoundsException` if there is no such series")
  static void promise16RefusesTheSeriesMinus1And4() {
    Lab empty = new Lab();
    refusesNoSuchSeries(empty, empty::longestRise);
    Lab full = rising(3, 30);
    refusesNoSuchSeries(full, full::longestRise);
  }

  // ---- 17: valuesBetween

  @Says({"Returns the number of values of a series in a range.", "the smallest value of the range",
      "the greatest value of the range", "Returns the number of values"})
  static void promise17BothEndsAreInTheRange() {
    Lab lab = new Lab().see(1, 5, 6, 9, 8, 9, 10);
    answers(4, () -> lab.valuesBetween(1, 6, 9));
    answers(5, () -> lab.valuesBetween(1, 5, 9));
    answers(3, () -> lab.valuesBetween(1, 7, 9));
    answers(2, () -> lab.valuesBetween(1, 6, 8));
    answers(5, () -> lab.valuesBetween(1, 6, 10));
    answers(2, () -> lab.valuesBetween(1, 9, 9));
    answers(0, () -> lab.valuesBetween(1, 7, 7));
    answers(0, () -> lab.valuesBetween(1, 11, 999));
    answers(0, () -> lab.valuesBetween(1, 0, 4));
  }

  @Says("0 if high is less than low")
  static void promise17Is0IfHighIsLess() {
    Lab lab = new Lab().see(1, 5, 6, 9, 8, 9, 10);
    answers(0, () -> lab.valuesBetween(1, 9, 8));
    answers(0, () -> lab.valuesBetween(1, 10, 5));
    answers(0, () -> lab.valuesBetween(1, 0, -1));
    answers(0, () -> lab.valuesBetween(1, Integer.MAX_VALUE, Integer.MIN_VALUE));
  }

  @Says("Returns the number of values of a series in a range.")
  static void promise17TakesAnyRange() {
    Lab lab = new Lab().see(1, 0, 500, 999);
    answers(3, () -> lab.valuesBetween(1, Integer.MIN_VALUE, Integer.MAX_VALUE));
    answers(3, () -> lab.valuesBetween(1, 0, 999));
    answers(2, () -> lab.valuesBetween(1, 1, 999));
    answers(2, () -> lab.valuesBetween(1, 0, 998));
    answers(1, () -> lab.valuesBetween(1, -5, 0));
    answers(1, () -> lab.valuesBetween(1, 999, 2000));
    answers(0, () -> lab.valuesBetween(1, Integer.MIN_VALUE, -1));
    answers(0, () -> lab.valuesBetween(1, 1000, Integer.MAX_VALUE));
  }

  @Says("Returns the number of values")
  static void promise17CountsFrom0To30() {
    answers(0, () -> new Lab().valuesBetween(0, 0, 999));
    answers(30, () -> new Lab().seeTimes(0, 30, 7).valuesBetween(0, 7, 7));
    answers(29, () -> new Lab().see(0, 8).seeTimes(0, 29, 7).valuesBetween(0, 7, 7));
    answers(29, () -> new Lab().seeTimes(0, 29, 7).see(0, 8).valuesBetween(0, 7, 7));
  }

  @Says("`series`: the series")
  static void promise17TakesTheSeries0To3() {
    Lab lab = new Lab().see(0, 1).see(1, 1, 2).see(2, 1, 2, 3).see(3, 1, 2, 3, 4);
    for (int series = 0; series < 4; series++) {
      int s = series;
      answers(s + 1, () -> lab.valuesBetween(s, 1, 4));
    }
  }

  @Says("Throws `IndexOutOfBoundsException` if there is no such series")
  static void promise17RefusesTheSeriesMinus1And4() {
    Lab lab = with(0, 3);
    refusesNoSuchSeries(lab, series -> lab.valuesBetween(series, 0, 999));
    refusesNoSuchSeries(lab, series -> lab.valuesBetween(series, 9, 6));
  }

  // ---- 18: limit

  @Says({"Returns the limit for outliers.", "Returns the limit.", "initially 3"})
  static void promise18Is3AtFirst() {
    answers(3, () -> new Lab().limit());
  }

  @Says("Returns the limit for outliers.")
  static void promise18AnswersEachLimitThatWasSet() {
    Lab lab = new Lab();
    for (int limit = 9; limit >= 1; limit--) {
      int l = limit;
      lab.setLimit(l);
      answers(l, lab::limit);
    }
    lab.undo();
    answers(2, lab::limit);
  }

  @Says("Returns the limit for outliers.")
  static void promise18StaysWhenALimitIsRefused() {
    Lab lab = new Lab();
    answers(BAD_ARGUMENT, () -> lab.setLimit(0));
    answers(3, lab::limit);
    answers(BAD_ARGUMENT, () -> lab.setLimit(10));
    answers(3, lab::limit);
  }
}
