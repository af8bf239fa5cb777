import java.util.ArrayList;
import java.util.Arrays;
import java.util.Collections;
import java.util.List;
import java.util.NoSuchElementException;

/**
 * The document once more, written as differently as can be: the state is only the prophets, the values and the limit,
 * and every score is computed anew from them. Not a test by itself.
 */
public final class Model {
  /** Never changed once it is made. */
  private record State(List<String> prophets, List<List<Integer>> series, int limit) {
  }

  private State now = new State(List.of(), Collections.nCopies(4, List.of()), 3);
  private State saved;
  private final List<State> past = new ArrayList<>();
  private String buffer = "";
  private String line = "";
  private Integer errorPosition;
  private Integer failedCommand;

  private void change(State next) {
    past.add(now);
    if (past.size() > 8) past.remove(0);
    now = next;
  }

  private static State withProphet(State state, char kind, int parameter) {
    if ("lmdts".indexOf(kind) < 0 || parameter < 1 || parameter > 9) throw new IllegalArgumentException();
    boolean hasValues = state.series.stream().anyMatch(values -> !values.isEmpty());
    if (state.prophets.size() == 8 || hasValues) throw new IllegalStateException();
    List<String> prophets = new ArrayList<>(state.prophets);
    prophets.add("" + kind + parameter);
    return new State(List.copyOf(prophets), state.series, state.limit);
  }

  private static State withSeries(State state, int series, List<Integer> values) {
    List<List<Integer>> all = new ArrayList<>(state.series);
    all.set(series, List.copyOf(values));
    return new State(state.prophets, List.copyOf(all), state.limit);
  }

  private static List<Integer> seriesOf(State state, int series) {
    if (series < 0 || series > 3) throw new IndexOutOfBoundsException();
    return state.series.get(series);
  }

  private static State withValue(State state, int series, int value) {
    List<Integer> values = new ArrayList<>(seriesOf(state, series));
    if (value < 0 || value > 999) throw new IllegalArgumentException();
    if (values.size() == 30) throw new IllegalStateException();
    values.add(value);
    return withSeries(state, series, values);
  }

  private static State withLimit(State state, int limit) {
    if (limit < 1 || limit > 9) throw new IllegalArgumentException();
    return new State(state.prophets, state.series, limit);
  }

  private static State without(State state, int series) {
    seriesOf(state, series);
    return withSeries(state, series, List.of());
  }

  public int addProphet(char kind, int parameter) {
    change(withProphet(now, kind, parameter));
    return now.prophets.size() - 1;
  }

  public int observe(int series, int value) {
    change(withValue(now, series, value));
    return days(series) - 1;
  }

  public int setLimit(int limit) {
    int previous = now.limit;
    change(withLimit(now, limit));
    return previous;
  }

  public int forget(int series) {
    int removed = days(series);
    change(without(now, series));
    return removed;
  }

  public int days(int series) {
    return seriesOf(now, series).size();
  }

  public int value(int series, int day) {
    List<Integer> values = seriesOf(now, series);
    if (day < 0 || day >= values.size()) throw new NoSuchElementException();
    return values.get(day);
  }

  public int range(int series) {
    List<Integer> values = seriesOf(now, series);
    return Collections.max(values) - Collections.min(values);
  }

  private List<Integer> last(int series, int count) {
    List<Integer> values = seriesOf(now, series);
    if (count < 1 || count > 30) throw new IllegalArgumentException();
    if (values.size() < count) throw new NoSuchElementException();
    return values.subList(values.size() - count, values.size());
  }

  private static double mean(List<Integer> values) {
    return (double) values.stream().mapToInt(v -> v).sum() / (double) values.size();
  }

  private static int middle(List<Integer> values) {
    return values.stream().sorted().toList().get((values.size() - 1) / 2);
  }

  private static double level(List<Integer> values, int p) {
    double x = values.get(0);
    for (int v : values.subList(1, values.size())) x = x + p * (v - x) / 10.0;
    return x;
  }

  public double movingAverage(int series, int count) {
    return mean(last(series, count));
  }

  public double movingAverageBySums(int series, int count) {
    return mean(last(series, count));
  }

  public int median(int series, int count) {
    return middle(last(series, count));
  }

  public int medianByCounting(int series, int count) {
    return middle(last(series, count));
  }

  public double smoothed(int series, int parameter) {
    List<Integer> values = seriesOf(now, series);
    if (parameter < 1 || parameter > 9) throw new IllegalArgumentException();
    if (values.isEmpty()) throw new NoSuchElementException();
    return level(values, parameter);
  }

  public boolean isOutlier(int series, int day) {
    int value = value(series, day);
    if (day < 5) return false;
    List<Integer> before = seriesOf(now, series).subList(day - 5, day);
    int m = middle(before);
    int d = middle(before.stream().map(v -> Math.abs(v - m)).toList());
    return Math.abs(value - m) > now.limit * (d == 0 ? 1 : d);
  }

  public int outliers(int series) {
    int number = 0;
    for (int day = 0; day < days(series); day++) number += isOutlier(series, day) ? 1 : 0;
    return number;
  }

  public int longestRise(int series) {
    List<Integer> values = seriesOf(now, series);
    int longest = 0;
    for (int from = 0; from < values.size(); from++) {
      int to = from + 1;
      while (to < values.size() && values.get(to) > values.get(to - 1)) to++;
      longest = Math.max(longest, to - from);
    }
    return longest;
  }

  public int valuesBetween(int series, int low, int high) {
    return (int) seriesOf(now, series).stream().filter(v -> low <= v && v <= high).count();
  }

  public int limit() {
    return now.limit;
  }

  public int prophets() {
    return now.prophets.size();
  }

  public char kind(int prophet) {
    return now.prophets.get(indexOf(prophet)).charAt(0);
  }

  public int parameter(int prophet) {
    return now.prophets.get(indexOf(prophet)).charAt(1) - '0';
  }

  private int indexOf(int prophet) {
    if (prophet < 0 || prophet >= prophets()) throw new IndexOutOfBoundsException();
    return prophet;
  }

  /** The forecast from these values, or null. */
  private Double foretell(int prophet, List<Integer> values) {
    int p = parameter(prophet);
    int size = values.size();
    switch (kind(prophet)) {
      case 'l':
        return size < 1 ? null : Double.valueOf(values.get(size - 1));
      case 'm':
        return size < p ? null : Double.valueOf(mean(values.subList(size - p, size)));
      case 'd':
        return size < p ? null : Double.valueOf(middle(values.subList(size - p, size)));
      case 't':
        return size < 2 ? null : Double.valueOf(2 * values.get(size - 1) - values.get(size - 2));
      default:
        return size < 1 ? null : Double.valueOf(level(values, p));
    }
  }

  public boolean hasForecast(int prophet, int series) {
    return foretell(indexOf(prophet), seriesOf(now, series)) != null;
  }

  public double forecast(int prophet, int series) {
    Double forecast = foretell(indexOf(prophet), seriesOf(now, series));
    if (forecast == null) throw new NoSuchElementException();
    return forecast;
  }

  public long forecastBits(int prophet, int series) {
    return Double.doubleToLongBits(forecast(prophet, series));
  }

  private Double errorOn(int prophet, int series, int day) {
    Double forecast = foretell(prophet, seriesOf(now, series).subList(0, day));
    return forecast == null ? null : Double.valueOf(Math.abs(forecast - seriesOf(now, series).get(day)));
  }

  private List<Double> allErrors(int prophet, int series) {
    List<Double> errors = new ArrayList<>();
    for (int day = 0; day < days(series); day++) {
      Double error = errorOn(indexOf(prophet), series, day);
      if (error != null) errors.add(error);
    }
    indexOf(prophet);
    return errors;
  }

  public int errors(int prophet, int series) {
    return allErrors(prophet, series).size();
  }

  public double errorSum(int prophet, int series) {
    double sum = 0.0;
    for (double error : allErrors(prophet, series)) sum += error;
    return sum;
  }

  public double errorSumByBacktest(int prophet, int series) {
    return errorSum(prophet, series);
  }

  public int points(int prophet, int series) {
    indexOf(prophet);
    int points = 0;
    for (int day = 0; day < days(series); day++) points += winnerOn(series, day) == prophet ? 1 : 0;
    return points;
  }

  private int winnerOn(int series, int day) {
    int winner = -1;
    for (int prophet = prophets() - 1; prophet >= 0; prophet--) {
      Double error = errorOn(prophet, series, day);
      if (error != null && (winner < 0 || error <= errorOn(winner, series, day))) winner = prophet;
    }
    return winner;
  }

  private int sumOfPoints(int prophet) {
    return points(prophet, 0) + points(prophet, 1) + points(prophet, 2) + points(prophet, 3);
  }

  public double meanError(int prophet) {
    int number = errors(prophet, 0) + errors(prophet, 1) + errors(prophet, 2) + errors(prophet, 3);
    if (number == 0) throw new ArithmeticException();
    double sum = 0.0 + errorSum(prophet, 0) + errorSum(prophet, 1) + errorSum(prophet, 2) + errorSum(prophet, 3);
    return sum / (double) number;
  }

  public int prophetByPoints(int rank) {
    List<Integer> order = new ArrayList<>();
    for (int prophet = 0; prophet < prophets(); prophet++) order.add(prophet);
    int[] sums = order.stream().mapToInt(this::sumOfPoints).toArray();
    order.sort((a, b) -> sums[b] != sums[a] ? sums[b] - sums[a] : a - b);
    if (rank < 0 || rank >= order.size()) throw new NoSuchElementException();
    return order.get(rank);
  }

  public int bestProphet() {
    int best = -1;
    for (int prophet = prophets() - 1; prophet >= 0; prophet--) {
      int candidate = prophet;
      Object mean = Check.outcome(() -> meanError(candidate));
      if (mean instanceof Double && (best < 0 || (Double) mean <= meanError(best))) best = prophet;
    }
    if (best < 0) throw new NoSuchElementException();
    return best;
  }

  public float outlierShare() {
    int values = days(0) + days(1) + days(2) + days(3);
    if (values == 0) throw new ArithmeticException();
    return (float) (outliers(0) + outliers(1) + outliers(2) + outliers(3)) / (float) values;
  }

  public boolean isConsistent() {
    return true;
  }

  public int writeSeries(int series) {
    StringBuilder text = new StringBuilder().append(series).append(':');
    for (int day = 0; day < days(series); day++) {
      text.append(' ').append(value(series, day)).append(isOutlier(series, day) ? "!" : "");
    }
    line = text.toString();
    return line.length();
  }

  public int writeProphets() {
    List<String> texts = new ArrayList<>();
    for (int prophet = 0; prophet < prophets(); prophet++) {
      String name = now.prophets.get(prophet).replaceAll("([lt]).", "$1");
      texts.add(name + "=" + sumOfPoints(prophet));
    }
    line = String.join(" ", texts);
    return line.length();
  }

  public char charAt(int index) {
    if (index < 0 || index >= line.length()) throw new IndexOutOfBoundsException();
    return line.charAt(index);
  }

  public int type(char character) {
    if (buffer.length() == 60) throw new IllegalStateException();
    buffer += character;
    return buffer.length();
  }

  public int run() {
    String text = buffer;
    buffer = "";
    if (!Grammar.isProgram(text)) {
      errorPosition = Grammar.errorPosition(text);
      throw new IllegalArgumentException();
    }
    String[] commands = text.split(";");
    State next = now;
    for (int number = 0; number < commands.length; number++) {
      State before = next;
      String command = commands[number];
      if (!(Check.outcome(() -> after(before, command)) instanceof State after)) {
        failedCommand = number;
        throw new UnsupportedOperationException();
      }
      next = after;
    }
    change(next);
    return commands.length;
  }

  private static State after(State state, String command) {
    String[] words = command.split("[ =,]");
    if (words[0].equals("prophet")) {
      return withProphet(state, words[1].charAt(0), words[1].length() > 1 ? words[1].charAt(1) - '0' : 1);
    }
    int number = Integer.parseInt(words[1]);
    if (words[0].equals("limit")) return withLimit(state, number);
    if (words[0].equals("forget")) return without(state, number);
    State next = state;
    for (String value : Arrays.asList(words).subList(2, words.length)) {
      next = withValue(next, number, Integer.parseInt(value));
    }
    return next;
  }

  public int errorPosition() {
    if (errorPosition == null) throw new NoSuchElementException();
    return errorPosition;
  }

  public int failedCommand() {
    if (failedCommand == null) throw new NoSuchElementException();
    return failedCommand;
  }

  public int undo() {
    if (past.isEmpty()) throw new IllegalStateException();
    now = past.remove(past.size() - 1);
    return past.size();
  }

  public int save() {
    saved = now;
    return prophets();
  }

  public int restore() {
    if (saved == null) throw new IllegalStateException();
    now = saved;
    past.clear();
    return prophets();
  }
}
