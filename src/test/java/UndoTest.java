/** Promises 41 to 43: undo, save and restore. */
public final class UndoTest {
  private static final Class<IllegalStateException> BAD_STATE = IllegalStateException.class;

  public static void main(String[] args) {
    promise41EveryChange();
    promise41TheLatestEight();
    promise41NoChange();
    promise41KeepsTheRest();
    promise42();
    promise43();
    Check.end("UndoTest");
  }

  private static void enter(ForecastLab lab, String text) {
    for (int i = 0; i < text.length(); i++) lab.type(text.charAt(i));
  }

  /** A laboratory with prophets, values, scores and no change that can be undone. */
  private static ForecastLab filled() {
    ForecastLab lab = new ForecastLab();
    lab.addProphet('l', 1);
    lab.addProphet('s', 3);
    for (int value : new int[] {10, 13, 12, 11, 10, 40, 12}) lab.observe(1, value);
    lab.observe(2, 77);
    lab.save();
    lab.restore();
    return lab;
  }

  private static void undoes(ForecastLab lab, String what, Check.Call change) {
    String before = View.stateOf(lab);
    change.answer();
    Check.answers("41 " + what + " changes", false, () -> before.equals(View.stateOf(lab)));
    Check.answers("41 undo " + what, 0, lab::undo);
    Check.answers("41 as before " + what, before, () -> View.stateOf(lab));
    Check.fails(lab, "41 nothing more after " + what, BAD_STATE, lab::undo);
  }

  private static void promise41EveryChange() {
    ForecastLab lab = filled();
    undoes(lab, "observe", () -> lab.observe(1, 500));
    undoes(lab, "setLimit", () -> lab.setLimit(9));
    undoes(lab, "forget", () -> lab.forget(1));
    enter(lab, "forget 1;forget 2;prophet m2;see 0=5,5,5;limit 2");
    undoes(lab, "run", lab::run);
    ForecastLab empty = new ForecastLab();
    undoes(empty, "addProphet", () -> empty.addProphet('d', 4));
    Check.fails(empty, "41 no change", BAD_STATE, empty::undo);
  }

  private static void promise41TheLatestEight() {
    ForecastLab lab = new ForecastLab();
    String[] states = new String[40];
    for (int change = 0; change < 40; change++) {
      states[change] = View.stateOf(lab);
      if (change < 8) lab.addProphet("lmdtslmd".charAt(change), change + 1);
      else if (change % 5 == 0) lab.setLimit(1 + change % 9);
      else lab.observe(change % 4, change * 7 % 50);
    }
    Check.answers("41 seven left", 7, lab::undo);
    Check.answers("41 six left", 6, lab::undo);
    Check.answers("41 two back", states[38], () -> View.stateOf(lab));
    lab.observe(0, 999);
    Check.answers("41 a new change counts", 6, lab::undo);
    Check.answers("41 the new one is undone", states[38], () -> View.stateOf(lab));
    for (int back = 3; back <= 8; back++) {
      int b = back;
      Check.answers("41 left", 8 - b, lab::undo);
      Check.answers("41 state", states[40 - b], () -> View.stateOf(lab));
    }
    Check.fails(lab, "41 only eight", BAD_STATE, lab::undo);
    lab.setLimit(2);
    Check.answers("41 again", 0, lab::undo);
  }

  /** Calls that fail, ask, write or save are no changes; a call that sets the same again is one. */
  private static void promise41NoChange() {
    ForecastLab lab = filled();
    lab.setLimit(3);
    lab.forget(3);
    Check.outcome(() -> lab.setLimit(10));
    Check.outcome(() -> lab.observe(0, 1000));
    Check.outcome(() -> lab.forget(4));
    Check.outcome(() -> lab.addProphet('l', 1));
    enter(lab, "limit 5;limit 0");
    Check.outcome(lab::run);
    enter(lab, "limit 5;");
    Check.outcome(lab::run);
    lab.writeSeries(1);
    lab.writeProphets();
    lab.save();
    Check.answers("41 forget without values is a change", 1, lab::undo);
    Check.answers("41 setLimit to the same is a change", 0, lab::undo);
    Check.fails(lab, "41 nothing else", BAD_STATE, lab::undo);
  }

  private static void promise41KeepsTheRest() {
    ForecastLab lab = filled();
    lab.setLimit(9);
    lab.writeSeries(2);
    enter(lab, "limit");
    lab.undo();
    Check.answers("41 keeps the line", "2: 77", () -> View.lineOf(lab));
    Check.answers("41 keeps the buffer", 6, () -> lab.type(' '));
    enter(lab, "8");
    Check.answers("41 the buffer's text", 1, lab::run);
    Check.answers("41 the buffer's text", 8, lab::limit);
    lab.save();
    lab.undo();
    Check.answers("41 keeps what was saved", 2, lab::restore);
    Check.answers("41 keeps what was saved", 8, lab::limit);
  }

  private static void restoresProphets() {
    ForecastLab lab = new ForecastLab();
    lab.addProphet('m', 2);
    lab.save();
    lab.undo();
    lab.addProphet('d', 7);
    lab.addProphet('t', 1);
    Check.answers("43 one prophet", 1, lab::restore);
    Check.answers("43 its kind", 'm', () -> lab.kind(0));
    Check.answers("43 its parameter", 2, () -> lab.parameter(0));
  }

  private static void promise42() {
    ForecastLab lab = new ForecastLab();
    Check.answers("42 none", 0, lab::save);
    lab.addProphet('l', 1);
    lab.addProphet('t', 1);
    Check.answers("42 two", 2, lab::save);
    Check.answers("42 is no change", 1, lab::undo);
    Check.answers("42 in place of the older", 2, lab::restore);
    Check.answers("42 in place of the older", 2, lab::prophets);
    for (int number = 2; number < 8; number++) lab.addProphet('m', number);
    String before = View.of(lab);
    Check.answers("42 eight", 8, lab::save);
    Check.answers("42 changes nothing else", before, () -> View.of(lab));
  }

  private static void promise43() {
    restoresProphets();
    ForecastLab lab = new ForecastLab();
    Check.fails(lab, "43 nothing saved", BAD_STATE, lab::restore);
    lab.setLimit(7);
    lab.addProphet('m', 2);
    for (int value : new int[] {4, 8, 15, 16, 23, 42}) lab.observe(3, value);
    String saved = View.stateOf(lab);
    lab.save();
    for (int again = 0; again < 3; again++) {
      lab.observe(3, 108);
      lab.forget(3);
      lab.addProphet('d', 3);
      lab.setLimit(1);
      lab.observe(0, 5);
      lab.writeSeries(0);
      enter(lab, "lim");
      Check.answers("43 restore", 1, lab::restore);
      Check.answers("43 the saved state", saved, () -> View.stateOf(lab));
      Check.fails(lab, "43 no change can be undone", BAD_STATE, lab::undo);
      Check.answers("43 keeps the line", "0: 5", () -> View.lineOf(lab));
      Check.answers("43 keeps the buffer", 4, () -> lab.type('i'));
      enter(lab, "t 7");
      Check.answers("43 the buffer's text", 1, lab::run);
      Check.answers("43 undo after it", 0, lab::undo);
    }
  }
}
