import java.util.ArrayList;
import java.util.List;

/**
 * A laboratory that remembers its calls, so that the same laboratory can be made again, and that refuses the call after
 * the 512th, whose answer the document leaves free. Not a test by itself.
 */
final class Lab {
  private interface Call {
    Object on(ForecastLab lab);
  }

  static final int MOST_CALLS = 512;
  private final ForecastLab lab = new ForecastLab();
  private final List<Call> calls = new ArrayList<>();

  /** A new laboratory that has had the same calls. */
  Lab again() {
    Lab again = new Lab();
    for (Call call : calls) Check.outcome(() -> again.ask(call));
    return again;
  }

  int calls() {
    return calls.size();
  }

  private Object ask(Call call) {
    if (calls.size() == MOST_CALLS) throw new AssertionError("more than 512 calls");
    calls.add(call);
    return call.on(lab);
  }

  // ---- several calls at once

  /** Adds prophets, each written as its kind and its parameter: "l1 m3". */
  Lab prophets(String prophets) {
    for (String prophet : prophets.split(" ")) addProphet(prophet.charAt(0), prophet.charAt(1) - '0');
    return this;
  }

  Lab see(int series, int... values) {
    for (int value : values) observe(series, value);
    return this;
  }

  Lab seeTimes(int series, int times, int value) {
    for (int time = 0; time < times; time++) observe(series, value);
    return this;
  }

  Lab enter(String text) {
    for (int i = 0; i < text.length(); i++) type(text.charAt(i));
    return this;
  }

  // ---- the calls of the face

  int addProphet(char kind, int parameter) {
    return (Integer) ask(lab -> lab.addProphet(kind, parameter));
  }

  int observe(int series, int value) {
    return (Integer) ask(lab -> lab.observe(series, value));
  }

  int setLimit(int limit) {
    return (Integer) ask(lab -> lab.setLimit(limit));
  }

  int forget(int series) {
    return (Integer) ask(lab -> lab.forget(series));
  }

  int days(int series) {
    return (Integer) ask(lab -> lab.days(series));
  }

  int value(int series, int day) {
    return (Integer) ask(lab -> lab.value(series, day));
  }

  int range(int series) {
    return (Integer) ask(lab -> lab.range(series));
  }

  double movingAverage(int series, int count) {
    return (Double) ask(lab -> lab.movingAverage(series, count));
  }

  double movingAverageBySums(int series, int count) {
    return (Double) ask(lab -> lab.movingAverageBySums(series, count));
  }

  int median(int series, int count) {
    return (Integer) ask(lab -> lab.median(series, count));
  }

  int medianByCounting(int series, int count) {
    return (Integer) ask(lab -> lab.medianByCounting(series, count));
  }

  double smoothed(int series, int parameter) {
    return (Double) ask(lab -> lab.smoothed(series, parameter));
  }

  boolean isOutlier(int series, int day) {
    return (Boolean) ask(lab -> lab.isOutlier(series, day));
  }

  int outliers(int series) {
    return (Integer) ask(lab -> lab.outliers(series));
  }

  int longestRise(int series) {
    return (Integer) ask(lab -> lab.longestRise(series));
  }

  int valuesBetween(int series, int low, int high) {
    return (Integer) ask(lab -> lab.valuesBetween(series, low, high));
  }

  int limit() {
    return (Integer) ask(ForecastLab::limit);
  }

  int prophets() {
    return (Integer) ask(ForecastLab::prophets);
  }

  char kind(int prophet) {
    return (Character) ask(lab -> lab.kind(prophet));
  }

  int parameter(int prophet) {
    return (Integer) ask(lab -> lab.parameter(prophet));
  }

  boolean hasForecast(int prophet, int series) {
    return (Boolean) ask(lab -> lab.hasForecast(prophet, series));
  }

  double forecast(int prophet, int series) {
    return (Double) ask(lab -> lab.forecast(prophet, series));
  }

  long forecastBits(int prophet, int series) {
    return (Long) ask(lab -> lab.forecastBits(prophet, series));
  }

  int errors(int prophet, int series) {
    return (Integer) ask(lab -> lab.errors(prophet, series));
  }

  double errorSum(int prophet, int series) {
    return (Double) ask(lab -> lab.errorSum(prophet, series));
  }

  double errorSumByBacktest(int prophet, int series) {
    return (Double) ask(lab -> lab.errorSumByBacktest(prophet, series));
  }

  int points(int prophet, int series) {
    return (Integer) ask(lab -> lab.points(prophet, series));
  }

  double meanError(int prophet) {
    return (Double) ask(lab -> lab.meanError(prophet));
  }

  int prophetByPoints(int rank) {
    return (Integer) ask(lab -> lab.prophetByPoints(rank));
  }

  int bestProphet() {
    return (Integer) ask(ForecastLab::bestProphet);
  }

  float outlierShare() {
    return (Float) ask(ForecastLab::outlierShare);
  }

  boolean isConsistent() {
    return (Boolean) ask(ForecastLab::isConsistent);
  }

  int writeSeries(int series) {
    return (Integer) ask(lab -> lab.writeSeries(series));
  }

  int writeProphets() {
    return (Integer) ask(ForecastLab::writeProphets);
  }

  char charAt(int index) {
    return (Character) ask(lab -> lab.charAt(index));
  }

  int type(char character) {
    return (Integer) ask(lab -> lab.type(character));
  }

  int run() {
    return (Integer) ask(ForecastLab::run);
  }

  int errorPosition() {
    return (Integer) ask(ForecastLab::errorPosition);
  }

  int failedCommand() {
    return (Integer) ask(ForecastLab::failedCommand);
  }

  int undo() {
    return (Integer) ask(ForecastLab::undo);
  }

  int save() {
    return (Integer) ask(ForecastLab::save);
  }

  int restore() {
    return (Integer) ask(ForecastLab::restore);
  }
}
