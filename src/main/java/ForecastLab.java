import java.util.NoSuchElementException;

/** A laboratory for forecasts of time series. */
public final class ForecastLab {
  private static final int SERIES_COUNT = 4;
  private static final int MOST_DAYS = 30;
  private static final int MOST_PROPHETS = 8;
  private static final int MOST_UNDOS = 8;
  private static final int MOST_TYPED = 60;
  private static final int GREATEST_VALUE = 999;
  private static final int OUTLIER_WINDOW = 5;
  // A full series takes "0:" and 30 times " 999!"; 8 prophets take less.
  private static final int LINE_SIZE = 2 + MOST_DAYS * 5;
  private static final int NOTHING = -1;

  private final State now = new State();
  private final State kept = new State();
  private final Past past = new Past();
  private final Program program = new Program();
  private final Line line = new Line();
  private boolean isKept;
  private int latestErrorPosition = NOTHING;
  private int latestFailedCommand = NOTHING;

  public ForecastLab() {
  }

  // ---- prophets and values

  public int addProphet(char kind, int parameter) throws IllegalArgumentException, IllegalStateException {
    if (!isKind(kind) || !isOneToNine(parameter)) throw new IllegalArgumentException();
    if (!now.takesProphet()) throw new IllegalStateException();
    noteChange();
    return now.enlist(kind, parameter);
  }

  public int observe(int series, int value)
      throws IndexOutOfBoundsException, IllegalArgumentException, IllegalStateException {
    Series observed = seriesAt(series);
    if (value < 0 || value > GREATEST_VALUE) throw new IllegalArgumentException();
    if (observed.isFull()) throw new IllegalStateException();
    noteChange();
    return now.append(series, value);
  }

  public int setLimit(int limit) throws IllegalArgumentException {
    if (!isOneToNine(limit)) throw new IllegalArgumentException();
    noteChange();
    int previous = now.limit;
    now.limit = limit;
    return previous;
  }

  public int forget(int series) throws IndexOutOfBoundsException {
    int removed = seriesAt(series).count;
    noteChange();
    now.wipe(series);
    return removed;
  }

  // ---- properties of series

  public int days(int series) throws IndexOutOfBoundsException {
    return seriesAt(series).count;
  }

  public int value(int series, int day) throws IndexOutOfBoundsException, NoSuchElementException {
    Series asked = seriesAt(series);
    if (!asked.hasDay(day)) throw new NoSuchElementException();
    return asked.values[day];
  }

  public int range(int series) throws IndexOutOfBoundsException, NoSuchElementException {
    Series asked = seriesAt(series);
    if (asked.count == 0) throw new NoSuchElementException();
    return asked.spread();
  }

  public double movingAverage(int series, int count)
      throws IndexOutOfBoundsException, IllegalArgumentException, NoSuchElementException {
    Series asked = seriesWithLast(series, count);
    return asked.meanBefore(asked.count, count);
  }

  public double movingAverageBySums(int series, int count)
      throws IndexOutOfBoundsException, IllegalArgumentException, NoSuchElementException {
    return seriesWithLast(series, count).meanBySums(count);
  }

  public int median(int series, int count)
      throws IndexOutOfBoundsException, IllegalArgumentException, NoSuchElementException {
    Series asked = seriesWithLast(series, count);
    return asked.medianOf(asked.values, asked.count - count, count);
  }

  public int medianByCounting(int series, int count)
      throws IndexOutOfBoundsException, IllegalArgumentException, NoSuchElementException {
    return seriesWithLast(series, count).countedMedian(count);
  }

  public double smoothed(int series, int parameter)
      throws IndexOutOfBoundsException, IllegalArgumentException, NoSuchElementException {
    Series asked = seriesAt(series);
    if (!isOneToNine(parameter)) throw new IllegalArgumentException();
    if (asked.count == 0) throw new NoSuchElementException();
    return asked.levelBefore(asked.count, parameter);
  }

  public boolean isOutlier(int series, int day) throws IndexOutOfBoundsException, NoSuchElementException {
    Series asked = seriesAt(series);
    if (!asked.hasDay(day)) throw new NoSuchElementException();
    return asked.strays(day, now.limit);
  }

  public int outliers(int series) throws IndexOutOfBoundsException {
    return seriesAt(series).countStrays(now.limit);
  }

  public int longestRise(int series) throws IndexOutOfBoundsException {
    return seriesAt(series).longestClimb();
  }

  public int valuesBetween(int series, int low, int high) throws IndexOutOfBoundsException {
    return seriesAt(series).countBetween(low, high);
  }

  public int limit() {
    return now.limit;
  }

  // ---- prophets

  public int prophets() {
    return now.prophetCount;
  }

  public char kind(int prophet) throws IndexOutOfBoundsException {
    return prophetAt(prophet).kind;
  }

  public int parameter(int prophet) throws IndexOutOfBoundsException {
    return prophetAt(prophet).parameter;
  }

  public boolean hasForecast(int prophet, int series) throws IndexOutOfBoundsException {
    Prophet asked = prophetAt(prophet);
    return asked.foresees(seriesAt(series).count);
  }

  public double forecast(int prophet, int series) throws IndexOutOfBoundsException, NoSuchElementException {
    return nextForecast(prophet, series);
  }

  public long forecastBits(int prophet, int series) throws IndexOutOfBoundsException, NoSuchElementException {
    return bitsOf(nextForecast(prophet, series));
  }

  public int errors(int prophet, int series) throws IndexOutOfBoundsException {
    Prophet asked = prophetAt(prophet);
    requireSeries(series);
    return asked.errorCounts[series];
  }

  public double errorSum(int prophet, int series) throws IndexOutOfBoundsException {
    Prophet asked = prophetAt(prophet);
    requireSeries(series);
    return asked.errorSums[series];
  }

  public double errorSumByBacktest(int prophet, int series) throws IndexOutOfBoundsException {
    Prophet asked = prophetAt(prophet);
    return asked.backtest(seriesAt(series));
  }

  public int points(int prophet, int series) throws IndexOutOfBoundsException {
    Prophet asked = prophetAt(prophet);
    requireSeries(series);
    return asked.pointCounts[series];
  }

  public double meanError(int prophet) throws IndexOutOfBoundsException, ArithmeticException {
    Prophet asked = prophetAt(prophet);
    int number = asked.countAllErrors();
    if (number == 0) throw new ArithmeticException();
    return asked.sumAllErrors() / (double) number;
  }

  public int prophetByPoints(int rank) throws NoSuchElementException {
    int found = rank < 0 ? NOTHING : now.prophetAtRank(rank);
    if (found == NOTHING) throw new NoSuchElementException();
    return found;
  }

  public int bestProphet() throws NoSuchElementException {
    int best = now.prophetWithLeastMeanError();
    if (best == NOTHING) throw new NoSuchElementException();
    return best;
  }

  public float outlierShare() throws ArithmeticException {
    int values = now.countAllValues();
    if (values == 0) throw new ArithmeticException();
    return (float) now.countAllStrays() / (float) values;
  }

  public boolean isConsistent() {
    return now.isSound();
  }

  // ---- output

  public int writeSeries(int series) throws IndexOutOfBoundsException {
    Series written = seriesAt(series);
    line.clear();
    line.putNumber(series);
    line.put(':');
    for (int day = 0; day < written.count; day++) {
      line.put(' ');
      line.putNumber(written.values[day]);
      if (written.strays(day, now.limit)) line.put('!');
    }
    return line.length;
  }

  public int writeProphets() {
    line.clear();
    for (int number = 0; number < now.prophetCount; number++) {
      if (number > 0) line.put(' ');
      Prophet written = now.prophets[number];
      line.put(written.kind);
      if (written.usesParameter()) line.putNumber(written.parameter);
      line.put('=');
      line.putNumber(written.sumAllPoints());
    }
    return line.length;
  }

  public char charAt(int index) throws IndexOutOfBoundsException {
    if (index < 0 || index >= line.length) throw new IndexOutOfBoundsException();
    return line.signs[index];
  }

  // ---- programs

  public int type(char character) throws IllegalStateException {
    if (program.length >= MOST_TYPED) throw new IllegalStateException();
    return program.append(character);
  }

  public int run() throws IllegalArgumentException, UnsupportedOperationException {
    boolean understood = program.parse();
    program.length = 0;
    if (!understood) {
      latestErrorPosition = program.position;
      throw new IllegalArgumentException();
    }
    past.write(now);
    int failed = firstFailedCommand();
    if (failed != NOTHING) {
      past.read(now);
      latestFailedCommand = failed;
      throw new UnsupportedOperationException();
    }
    past.advance();
    return program.commands;
  }

  public int errorPosition() throws NoSuchElementException {
    if (latestErrorPosition == NOTHING) throw new NoSuchElementException();
    return latestErrorPosition;
  }

  public int failedCommand() throws NoSuchElementException {
    if (latestFailedCommand == NOTHING) throw new NoSuchElementException();
    return latestFailedCommand;
  }

  // ---- undo and snapshots

  public int undo() throws IllegalStateException {
    if (past.count == 0) throw new IllegalStateException();
    past.stepBack();
    past.read(now);
    return past.count;
  }

  public int save() {
    kept.copyFrom(now);
    isKept = true;
    return now.prophetCount;
  }

  public int restore() throws IllegalStateException {
    if (!isKept) throw new IllegalStateException();
    now.copyFrom(kept);
    past.count = 0;
    return now.prophetCount;
  }

  // ---- what the calls share

  private static boolean isSeries(int series) {
    return series >= 0 && series < SERIES_COUNT;
  }

  private static boolean isKind(char kind) {
    return kind == 'l' || kind == 'm' || kind == 'd' || kind == 't' || kind == 's';
  }

  private static boolean isOneToNine(int number) {
    return number >= 1 && number <= 9;
  }

  private static void requireSeries(int series) {
    if (!isSeries(series)) throw new IndexOutOfBoundsException();
  }

  private Series seriesAt(int series) {
    requireSeries(series);
    return now.series[series];
  }

  private Series seriesWithLast(int series, int count) {
    Series asked = seriesAt(series);
    if (count < 1 || count > MOST_DAYS) throw new IllegalArgumentException();
    if (asked.count < count) throw new NoSuchElementException();
    return asked;
  }

  private Prophet prophetAt(int prophet) {
    if (prophet < 0 || prophet >= now.prophetCount) throw new IndexOutOfBoundsException();
    return now.prophets[prophet];
  }

  private double nextForecast(int prophet, int series) {
    Prophet asked = prophetAt(prophet);
    Series known = seriesAt(series);
    if (!asked.foresees(known.count)) throw new NoSuchElementException();
    return asked.foretell(known, known.count);
  }

  private void noteChange() {
    past.write(now);
    past.advance();
  }

  private int firstFailedCommand() {
    for (int step = 0; step < program.steps; step++) {
      if (!takeStep(program.verbs[step], program.firsts[step], program.seconds[step])) {
        return program.owners[step];
      }
    }
    return NOTHING;
  }

  /** Tells a failure by its answer, so that run() need not catch what the calls throw. */
  private boolean takeStep(char verb, int first, int second) {
    switch (verb) {
      case 'p':
        if (!isOneToNine(second) || !now.takesProphet()) return false;
        now.enlist((char) first, second);
        return true;
      case 's':
        // A number has at most three digits, so no value is out of range.
        if (!isSeries(first) || now.series[first].isFull()) return false;
        now.append(first, second);
        return true;
      case 'l':
        if (!isOneToNine(first)) return false;
        now.limit = first;
        return true;
      default:
        if (!isSeries(first)) return false;
        now.wipe(first);
        return true;
    }
  }

  /** Halving and doubling are exact, so the exponent and the fraction come out without Double's own methods. */
  private static long bitsOf(double number) {
    if (number == 0.0) return 0L;
    double size = number < 0.0 ? -number : number;
    long exponent = 1023L;
    for (; size >= 2.0 && exponent < 2046L; exponent++) size = size / 2.0;
    for (; size < 1.0 && exponent > 1L; exponent--) size = size * 2.0;
    long fraction = (long) ((size - 1.0) * (double) (1L << 52));
    long sign = number < 0.0 ? 1L << 63 : 0L;
    return sign | exponent << 52 | fraction;
  }

  /** The values of one series. "Before an end" means the days that are less than the end. */
  private static final class Series {
    final int[] values = new int[MOST_DAYS];
    int count;
    // Rows for the computations, made once: they are no part of the state.
    private final int[] sorted = new int[MOST_DAYS];
    private final int[] distances = new int[OUTLIER_WINDOW];
    private final int[] sums = new int[MOST_DAYS + 1];

    void copyFrom(Series other) {
      System.arraycopy(other.values, 0, values, 0, MOST_DAYS);
      count = other.count;
    }

    boolean isFull() {
      return count >= MOST_DAYS;
    }

    boolean hasDay(int day) {
      return day >= 0 && day < count;
    }

    int add(int value) {
      values[count] = value;
      count++;
      return count - 1;
    }

    int spread() {
      int smallest = values[0];
      int greatest = values[0];
      for (int day = 1; day < count; day++) {
        smallest = Math.min(smallest, values[day]);
        greatest = Math.max(greatest, values[day]);
      }
      return greatest - smallest;
    }

    double meanBefore(int end, int length) {
      int sum = 0;
      for (int day = end - length; day < end; day++) sum += values[day];
      return (double) sum / (double) length;
    }

    double meanBySums(int length) {
      sums[0] = 0;
      for (int day = 0; day < count; day++) sums[day + 1] = sums[day] + values[day];
      return (double) (sums[count] - sums[count - length]) / (double) length;
    }

    int medianOf(int[] numbers, int start, int length) {
      for (int i = 0; i < length; i++) {
        int number = numbers[start + i];
        int place = i;
        for (; place > 0 && sorted[place - 1] > number; place--) sorted[place] = sorted[place - 1];
        sorted[place] = number;
      }
      return sorted[(length - 1) / 2];
    }

    int countedMedian(int length) {
      int start = count - length;
      int middle = (length - 1) / 2;
      for (int day = start; day < count; day++) {
        int smaller = countBelow(start, values[day]);
        int equal = countBelow(start, values[day] + 1) - smaller;
        if (smaller <= middle && middle < smaller + equal) return values[day];
      }
      return values[start];
    }

    private int countBelow(int start, int bound) {
      int below = 0;
      for (int day = start; day < count; day++) {
        if (values[day] < bound) below++;
      }
      return below;
    }

    double levelBefore(int end, int parameter) {
      double level = (double) values[0];
      for (int day = 1; day < end; day++) {
        level = level + (double) parameter * ((double) values[day] - level) / 10.0;
      }
      return level;
    }

    boolean strays(int day, int limit) {
      if (day < OUTLIER_WINDOW) return false;
      int start = day - OUTLIER_WINDOW;
      int middle = medianOf(values, start, OUTLIER_WINDOW);
      for (int i = 0; i < OUTLIER_WINDOW; i++) distances[i] = Math.abs(values[start + i] - middle);
      int unit = Math.max(1, medianOf(distances, 0, OUTLIER_WINDOW));
      return Math.abs(values[day] - middle) > limit * unit;
    }

    int countStrays(int limit) {
      int strays = 0;
      for (int day = 0; day < count; day++) {
        if (strays(day, limit)) strays++;
      }
      return strays;
    }

    int longestClimb() {
      int longest = 0;
      int climb = 0;
      for (int day = 0; day < count; day++) {
        climb = day > 0 && values[day] > values[day - 1] ? climb + 1 : 1;
        longest = Math.max(longest, climb);
      }
      return longest;
    }

    int countBetween(int low, int high) {
      int between = 0;
      for (int day = 0; day < count; day++) {
        if (values[day] >= low && values[day] <= high) between++;
      }
      return between;
    }

    boolean isSound() {
      if (count < 0 || count > MOST_DAYS) return false;
      return countBetween(0, GREATEST_VALUE) == count;
    }
  }

  /** A prophet, and its scores for each series. */
  private static final class Prophet {
    char kind;
    int parameter;
    final int[] errorCounts = new int[SERIES_COUNT];
    final double[] errorSums = new double[SERIES_COUNT];
    final int[] pointCounts = new int[SERIES_COUNT];

    void copyFrom(Prophet other) {
      kind = other.kind;
      parameter = other.parameter;
      System.arraycopy(other.errorCounts, 0, errorCounts, 0, SERIES_COUNT);
      System.arraycopy(other.errorSums, 0, errorSums, 0, SERIES_COUNT);
      System.arraycopy(other.pointCounts, 0, pointCounts, 0, SERIES_COUNT);
    }

    void begin(char newKind, int newParameter) {
      kind = newKind;
      parameter = newParameter;
      for (int series = 0; series < SERIES_COUNT; series++) wipeScores(series);
    }

    void wipeScores(int series) {
      errorCounts[series] = 0;
      errorSums[series] = 0.0;
      pointCounts[series] = 0;
    }

    boolean usesParameter() {
      return kind == 'm' || kind == 'd' || kind == 's';
    }

    int neededValues() {
      switch (kind) {
        case 'm':
        case 'd':
          return parameter;
        case 't':
          return 2;
        default:
          return 1;
      }
    }

    /** Whether there is a forecast for this day, from the values before it. */
    boolean foresees(int day) {
      return day >= neededValues();
    }

    /** The forecast for a day that the prophet foresees, from the values before it. */
    double foretell(Series series, int day) {
      switch (kind) {
        case 'm':
          return series.meanBefore(day, parameter);
        case 'd':
          return (double) series.medianOf(series.values, day - parameter, parameter);
        case 't':
          return (double) (2 * series.values[day - 1] - series.values[day - 2]);
        case 's':
          return series.levelBefore(day, parameter);
        default:
          return (double) series.values[day - 1];
      }
    }

    double errorOn(Series series, int day) {
      double difference = foretell(series, day) - (double) series.values[day];
      return difference < 0.0 ? -difference : difference;
    }

    void addError(int series, double error) {
      errorCounts[series]++;
      errorSums[series] = errorSums[series] + error;
    }

    double backtest(Series series) {
      double sum = 0.0;
      for (int day = neededValues(); day < series.count; day++) sum = sum + errorOn(series, day);
      return sum;
    }

    int countAllErrors() {
      int all = 0;
      for (int series = 0; series < SERIES_COUNT; series++) all += errorCounts[series];
      return all;
    }

    double sumAllErrors() {
      double all = 0.0;
      for (int series = 0; series < SERIES_COUNT; series++) all = all + errorSums[series];
      return all;
    }

    int sumAllPoints() {
      int all = 0;
      for (int series = 0; series < SERIES_COUNT; series++) all += pointCounts[series];
      return all;
    }
  }

  /** All that is undone, saved and restored. */
  private static final class State {
    final Series[] series = new Series[SERIES_COUNT];
    final Prophet[] prophets = new Prophet[MOST_PROPHETS];
    int prophetCount;
    int limit = 3;

    State() {
      for (int number = 0; number < SERIES_COUNT; number++) series[number] = new Series();
      for (int number = 0; number < MOST_PROPHETS; number++) prophets[number] = new Prophet();
    }

    void copyFrom(State other) {
      for (int number = 0; number < SERIES_COUNT; number++) series[number].copyFrom(other.series[number]);
      for (int number = 0; number < MOST_PROPHETS; number++) prophets[number].copyFrom(other.prophets[number]);
      prophetCount = other.prophetCount;
      limit = other.limit;
    }

    boolean takesProphet() {
      return prophetCount < MOST_PROPHETS && countAllValues() == 0;
    }

    int enlist(char kind, int parameter) {
      prophets[prophetCount].begin(kind, parameter);
      prophetCount++;
      return prophetCount - 1;
    }

    int append(int number, int value) {
      Series grown = series[number];
      int day = grown.add(value);
      int winner = NOTHING;
      double smallest = 0.0;
      for (int candidate = 0; candidate < prophetCount; candidate++) {
        Prophet prophet = prophets[candidate];
        if (!prophet.foresees(day)) continue;
        double error = prophet.errorOn(grown, day);
        prophet.addError(number, error);
        if (winner == NOTHING || error < smallest) {
          winner = candidate;
          smallest = error;
        }
      }
      if (winner != NOTHING) prophets[winner].pointCounts[number]++;
      return day;
    }

    void wipe(int number) {
      series[number].count = 0;
      for (int prophet = 0; prophet < prophetCount; prophet++) prophets[prophet].wipeScores(number);
    }

    int countAllValues() {
      int all = 0;
      for (int number = 0; number < SERIES_COUNT; number++) all += series[number].count;
      return all;
    }

    int countAllStrays() {
      int all = 0;
      for (int number = 0; number < SERIES_COUNT; number++) all += series[number].countStrays(limit);
      return all;
    }

    int prophetAtRank(int rank) {
      for (int number = 0; number < prophetCount; number++) {
        if (rankOf(number) == rank) return number;
      }
      return NOTHING;
    }

    private int rankOf(int number) {
      int sum = prophets[number].sumAllPoints();
      int rank = 0;
      for (int other = 0; other < prophetCount; other++) {
        int otherSum = prophets[other].sumAllPoints();
        if (otherSum > sum || otherSum == sum && other < number) rank++;
      }
      return rank;
    }

    int prophetWithLeastMeanError() {
      int best = NOTHING;
      double least = 0.0;
      for (int number = 0; number < prophetCount; number++) {
        int errors = prophets[number].countAllErrors();
        if (errors == 0) continue;
        double mean = prophets[number].sumAllErrors() / (double) errors;
        if (best == NOTHING || mean < least) {
          best = number;
          least = mean;
        }
      }
      return best;
    }

    boolean isSound() {
      if (!isOneToNine(limit) || prophetCount < 0 || prophetCount > MOST_PROPHETS) return false;
      for (int prophet = 0; prophet < prophetCount; prophet++) {
        if (!isKind(prophets[prophet].kind) || !isOneToNine(prophets[prophet].parameter)) return false;
      }
      for (int number = 0; number < SERIES_COUNT; number++) {
        if (!series[number].isSound() || !areScoresSound(number)) return false;
      }
      return true;
    }

    /** Each day with a forecast gives one point, so the prophet who needs least tells how many there are. */
    private boolean areScoresSound(int number) {
      int most = 0;
      int points = 0;
      for (int prophet = 0; prophet < prophetCount; prophet++) {
        Prophet scored = prophets[prophet];
        int due = Math.max(0, series[number].count - scored.neededValues());
        if (scored.errorCounts[number] != due) return false;
        if (scored.errorSums[number] != scored.backtest(series[number])) return false;
        most = Math.max(most, due);
        points += scored.pointCounts[number];
      }
      return points == most;
    }
  }

  /** The states before the latest changes, in a ring. One place is always free, so a failed run costs none of them. */
  private static final class Past {
    private static final int PLACES = MOST_UNDOS + 1;
    private final State[] states = new State[PLACES];
    private int next;
    int count;

    Past() {
      for (int place = 0; place < PLACES; place++) states[place] = new State();
    }

    void write(State state) {
      states[next].copyFrom(state);
    }

    void read(State state) {
      state.copyFrom(states[next]);
    }

    void advance() {
      next = next + 1 < PLACES ? next + 1 : 0;
      if (count < MOST_UNDOS) count++;
    }

    void stepBack() {
      next = next > 0 ? next - 1 : PLACES - 1;
      count--;
    }
  }

  /** The output line. */
  private static final class Line {
    final char[] signs = new char[LINE_SIZE];
    int length;

    void clear() {
      length = 0;
    }

    void put(char sign) {
      if (length >= LINE_SIZE) return;
      signs[length] = sign;
      length++;
    }

    /** No number that is written has more than three digits. */
    void putNumber(int number) {
      if (number >= 100) put(digitOf(number / 100));
      if (number >= 10) put(digitOf(number / 10));
      put(digitOf(number));
    }

    private static char digitOf(int number) {
      return (char) ('0' + number % 10);
    }
  }

  /** The program buffer, and the steps that were parsed from it: one for each call that a command stands for. */
  private static final class Program {
    private final char[] text = new char[MOST_TYPED];
    int length;
    int position;
    int commands;
    // A step takes at least one character of the text, so the rows are never too short.
    final char[] verbs = new char[MOST_TYPED];
    final int[] firsts = new int[MOST_TYPED];
    final int[] seconds = new int[MOST_TYPED];
    final int[] owners = new int[MOST_TYPED];
    int steps;

    int append(char character) {
      text[length] = character;
      length++;
      return length;
    }

    /** Where the text is not a program, the position stays at its error. */
    boolean parse() {
      position = 0;
      commands = 0;
      steps = 0;
      for (int read = 0; read < MOST_TYPED; read++) {
        if (!parseCommand()) return false;
        commands++;
        if (!accepts(';')) return position == length;
      }
      return false;
    }

    private boolean parseCommand() {
      if (isAt('p')) return acceptsWord("prophet ") && parseProphet();
      if (isAt('s')) return acceptsWord("see ") && parseSee();
      if (isAt('l')) return acceptsWord("limit ") && parseDigit('l');
      return acceptsWord("forget ") && parseDigit('f');
    }

    private boolean parseProphet() {
      boolean takesDigit = isAt('m') || isAt('d') || isAt('s');
      if (!takesDigit && !isAt('l') && !isAt('t')) return false;
      char kind = text[position];
      position++;
      if (takesDigit && !isAtDigit()) return false;
      addStep('p', kind, takesDigit ? readDigit() : 1);
      return true;
    }

    private boolean parseSee() {
      if (!isAtDigit()) return false;
      int series = readDigit();
      if (!accepts('=')) return false;
      for (int read = 0; read < MOST_TYPED; read++) {
        if (!isAtDigit()) return false;
        addStep('s', series, readNumber());
        if (!accepts(',')) return true;
      }
      return false;
    }

    private boolean parseDigit(char verb) {
      if (!isAtDigit()) return false;
      addStep(verb, readDigit(), 0);
      return true;
    }

    private int readNumber() {
      int number = readDigit();
      for (int more = 0; more < 2 && isAtDigit(); more++) number = number * 10 + readDigit();
      return number;
    }

    private int readDigit() {
      int digit = text[position] - '0';
      position++;
      return digit;
    }

    private void addStep(char verb, int first, int second) {
      if (steps >= MOST_TYPED) return;
      verbs[steps] = verb;
      firsts[steps] = first;
      seconds[steps] = second;
      owners[steps] = commands;
      steps++;
    }

    private boolean isAt(char character) {
      return position < length && text[position] == character;
    }

    private boolean isAtDigit() {
      return position < length && text[position] >= '0' && text[position] <= '9';
    }

    private boolean accepts(char character) {
      if (!isAt(character)) return false;
      position++;
      return true;
    }

    private boolean acceptsWord(String word) {
      for (int i = 0; i < word.length(); i++) {
        if (!accepts(word.charAt(i))) return false;
      }
      return true;
    }
  }
}
