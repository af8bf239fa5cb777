/** Promises 34 to 36: the output line. */
public final class OutputTest {
  private static final Class<IndexOutOfBoundsException> NO_INDEX = IndexOutOfBoundsException.class;

  public static void main(String[] args) {
    promise34();
    promise35();
    promise36();
    Check.end("OutputTest");
  }

  private static void writesSeries(ForecastLab lab, int series, String due) {
    Check.answers("34 length", due.length(), () -> lab.writeSeries(series));
    Check.answers("34 line", due, () -> View.lineOf(lab));
  }

  private static void writesProphets(ForecastLab lab, String due) {
    Check.answers("35 length", due.length(), lab::writeProphets);
    Check.answers("35 line", due, () -> View.lineOf(lab));
  }

  private static void promise34() {
    ForecastLab lab = new ForecastLab();
    for (int value : new int[] {5, 5, 5, 6, 5, 40}) lab.observe(0, value);
    writesSeries(lab, 0, "0: 5 5 5 6 5 40!");
    writesSeries(lab, 3, "3:");
    for (int value : new int[] {0, 9, 10, 99, 100, 999}) lab.observe(2, value);
    writesSeries(lab, 2, "2: 0 9 10 99 100 999!");
    lab.setLimit(9);
    writesSeries(lab, 2, "2: 0 9 10 99 100 999!");
    lab.observe(2, 500);
    lab.observe(2, 109);
    lab.observe(2, 110);
    writesSeries(lab, 2, "2: 0 9 10 99 100 999! 500 109 110");
    for (int series : new int[] {-1, 4, Integer.MIN_VALUE, Integer.MAX_VALUE}) {
      Check.fails(lab, "34 series", NO_INDEX, () -> lab.writeSeries(series));
    }
    longestLine();
  }

  private static void longestLine() {
    ForecastLab lab = new ForecastLab();
    lab.setLimit(1);
    StringBuilder due = new StringBuilder("1:");
    for (int day = 0; day < 30; day++) {
      int value = day < 5 ? 990 : 100 + day % 7 * (day % 3) * 50;
      lab.observe(1, value);
      due.append(' ').append(value);
      if (lab.isOutlier(1, day)) due.append('!');
    }
    writesSeries(lab, 1, due.toString());
  }

  private static void promise35() {
    ForecastLab lab = new ForecastLab();
    lab.writeSeries(0);
    writesProphets(lab, "");
    Check.fails(lab, "35 empty line", NO_INDEX, () -> lab.charAt(0));
    lab.addProphet('l', 7);
    writesProphets(lab, "l=0");
    lab.addProphet('m', 4);
    lab.addProphet('d', 9);
    lab.addProphet('t', 2);
    lab.addProphet('s', 1);
    writesProphets(lab, "l=0 m4=0 d9=0 t=0 s1=0");
    for (int day = 0; day < 3; day++) lab.observe(1, 5);
    lab.observe(2, 5);
    lab.observe(2, 5);
    writesProphets(lab, "l=3 m4=0 d9=0 t=0 s1=0");
    for (int day = 0; day < 30; day++) {
      lab.observe(0, 5);
      lab.observe(3, 5);
    }
    writesProphets(lab, "l=61 m4=0 d9=0 t=0 s1=0");
    lab.forget(1);
    lab.forget(2);
    for (int day = 0; day < 30; day++) {
      lab.observe(1, 5);
      lab.observe(2, 5);
    }
    writesProphets(lab, "l=116 m4=0 d9=0 t=0 s1=0");
  }

  private static void promise36() {
    ForecastLab lab = new ForecastLab();
    Check.fails(lab, "36 initially empty", NO_INDEX, () -> lab.charAt(0));
    lab.observe(1, 7);
    lab.writeSeries(1);
    String due = "1: 7";
    for (int index = 0; index < 4; index++) {
      int i = index;
      Check.answers("36 character", due.charAt(i), () -> lab.charAt(i));
    }
    for (int index : new int[] {-1, 4, 5, 152, Integer.MIN_VALUE, Integer.MAX_VALUE}) {
      Check.fails(lab, "36 index", NO_INDEX, () -> lab.charAt(index));
    }
    lab.observe(1, 8);
    Check.answers("36 an old line stays", due, () -> View.lineOf(lab));
    lab.writeSeries(2);
    Check.answers("36 a new line replaces it", "2:", () -> View.lineOf(lab));
    Check.fails(lab, "36 nothing is left of the old one", NO_INDEX, () -> lab.charAt(3));
  }
}
