/** Promises 41 to 43: undo, save and restore. */
public final class UndoTest extends Check {
  public static void main(String[] args) {
    runAll(UndoTest.class);
  }

  /** A laboratory with prophets, values, scores and no change that can be undone. */
  private static Lab filled() {
    Lab lab = new Lab().prophets("l1 s3").see(1, 10, 13, 12, 11, 10, 40, 12).see(2, 77);
    lab.save();
    lab.restore();
    return lab;
  }

  // ---- 41: undo

  private static void undoes(Lab lab, Call change) {
    String before = View.stateOf(lab);
    change.answer();
    same(false, before.equals(View.stateOf(lab)));
    answers(0, lab::undo);
    same(before, View.stateOf(lab));
    refuses(lab, BAD_STATE, lab::undo);
  }

  @Says("Throws `IllegalStateException` if no change can be undone")
  static void promise41RefusesWithoutAChange() {
    Lab empty = new Lab();
    refuses(empty, BAD_STATE, empty::undo);
    refuses(empty, BAD_STATE, empty::undo);
    Lab lab = filled();
    refuses(lab, BAD_STATE, lab::undo);
    lab.setLimit(4);
    answers(0, lab::undo);
    refuses(lab, BAD_STATE, lab::undo);
    answers(3, lab::limit);
  }

  @Says({"Undoes the latest change that was not undone.", "A change is a successful call of addProphet"})
  static void promise41UndoesAddProphet() {
    Lab lab = new Lab();
    undoes(lab, () -> lab.addProphet('d', 4));
    Lab eight = new Lab().prophets("l1 m2 d3 t4 s5 l6 m7");
    eight.save();
    eight.restore();
    undoes(eight, () -> eight.addProphet('s', 9));
  }

  @Says("A change is a successful call of addProphet, observe")
  static void promise41UndoesObserve() {
    Lab lab = filled();
    undoes(lab, () -> lab.observe(1, 500));
    undoes(lab, () -> lab.observe(0, 0));
    Lab full = new Lab().prophets("l1 s3").seeTimes(3, 29, 5);
    full.save();
    full.restore();
    undoes(full, () -> full.observe(3, 9));
  }

  @Says("A change is a successful call of addProphet, observe, setLimit")
  static void promise41UndoesSetLimit() {
    Lab lab = filled();
    undoes(lab, () -> lab.setLimit(9));
    undoes(lab, () -> lab.setLimit(1));
  }

  @Says("A change is a successful call of addProphet, observe, setLimit, forget")
  static void promise41UndoesForget() {
    Lab lab = filled();
    undoes(lab, () -> lab.forget(1));
    Lab full = new Lab().prophets("l1 s3").seeTimes(3, 30, 5);
    full.save();
    full.restore();
    undoes(full, () -> full.forget(3));
  }

  @Says("A change is a successful call of addProphet, observe, setLimit, forget or run.")
  static void promise41UndoesRun() {
    Lab lab = filled();
    undoes(lab, lab.enter("forget 1;forget 2;prophet m2;see 0=5,5,5;limit 2")::run);
  }

  @Says("A change is a successful call of addProphet, observe, setLimit, forget or run.")
  static void promise41ASuccessfulCallThatSetsTheSameIsAChange() {
    Lab lab = filled();
    lab.setLimit(3);
    lab.forget(3);
    lab.enter("limit 3;forget 0").run();
    answers(2, lab::undo);
    answers(1, lab::undo);
    answers(0, lab::undo);
    refuses(lab, BAD_STATE, lab::undo);
  }

  @Says("A change is a successful call of addProphet, observe, setLimit, forget or run.")
  static void promise41OtherCallsAreNoChanges() {
    Lab lab = filled();
    lab.setLimit(4);
    outcome(() -> lab.setLimit(10));
    outcome(() -> lab.observe(0, 1000));
    outcome(() -> lab.observe(4, 1));
    outcome(() -> lab.forget(4));
    outcome(() -> lab.addProphet('l', 1));
    outcome(() -> lab.addProphet('x', 1));
    outcome(lab.enter("limit 5;limit 0")::run);
    outcome(lab.enter("limit 5;")::run);
    lab.writeSeries(1);
    lab.writeProphets();
    lab.save();
    lab.isConsistent();
    answers(0, lab::undo);
    refuses(lab, BAD_STATE, lab::undo);
    answers(3, lab::limit);
  }

  private static Lab withFullSeries(int series) {
    Lab lab = new Lab().prophets("l1 s3");
    for (int day = 0; day < 30; day++) lab.observe(series, 500 + day * 7 % 50);
    return lab;
  }

  @Says("The state that is undone, saved and restored consists of everything")
  static void promise41BringsBackAFullSeriesInPlaceOfAnother() {
    for (int series = 0; series < 4; series++) {
      int s = series;
      Lab lab = withFullSeries(s);
      String before = View.stateOf(lab);
      lab.forget(s);
      lab.enter("see " + s + "=1,2,3,4,5,6,7,8,9,0,1,2,3,4,5,6,7,8,9,0,1,2,3,4,5,6,7").run();
      lab.enter("see " + s + "=8,9,10").run();
      answers(10, () -> lab.value(s, 29));
      lab.undo();
      lab.undo();
      answers(5, lab::undo);
      same(before, View.stateOf(lab));
      answers(500 + 29 * 7 % 50, () -> lab.value(s, 29));
    }
  }

  @Says({"The 8 latest changes can be undone.", "Returns the number of changes that can still be undone."})
  static void promise41UndoesEightChanges() {
    for (int changes = 1; changes <= 8; changes++) {
      Lab lab = new Lab();
      for (int change = 1; change <= changes; change++) lab.observe(2, change);
      for (int left = changes - 1; left >= 0; left--) {
        int due = left;
        answers(due, lab::undo);
        answers(due, () -> lab.days(2));
      }
      refuses(lab, BAD_STATE, lab::undo);
    }
  }

  @Says("The 8 latest changes can be undone.")
  static void promise41RefusesTheNinthUndo() {
    for (int changes = 9; changes <= 28; changes++) {
      Lab lab = new Lab();
      for (int change = 1; change <= changes; change++) lab.observe(2, change);
      for (int left = 7; left >= 0; left--) {
        int due = left;
        int days = changes - 8 + left;
        answers(due, lab::undo);
        answers(days, () -> lab.days(2));
      }
      refuses(lab, BAD_STATE, lab::undo);
    }
  }

  @Says({"The 8 latest changes can be undone.", "The state that is undone, saved and restored consists of everything"})
  static void promise41EachOfTheEightStates() {
    Lab lab = new Lab();
    String[] states = new String[24];
    for (int change = 0; change < 24; change++) {
      states[change] = View.stateOf(lab);
      if (change < 8) lab.addProphet("lmdtslmd".charAt(change), change + 1);
      else if (change % 5 == 0) lab.setLimit(1 + change % 9);
      else if (change == 21) lab.forget(2);
      else lab.observe(change % 4, change * 7 % 50);
    }
    for (int back = 1; back <= 8; back++) {
      int left = 8 - back;
      answers(left, lab::undo);
      same(states[24 - back], View.stateOf(lab));
    }
    refuses(lab, BAD_STATE, lab::undo);
  }

  @Says("Undoes the latest change that was not undone.")
  static void promise41AChangeBehindAnUndoCountsAgain() {
    Lab lab = new Lab();
    for (int change = 1; change <= 10; change++) lab.observe(0, change);
    answers(7, lab::undo);
    answers(6, lab::undo);
    lab.setLimit(9);
    answers(6, lab::undo);
    answers(3, lab::limit);
    answers(8, () -> lab.days(0));
    answers(5, lab::undo);
    answers(7, () -> lab.days(0));
    lab.forget(0);
    lab.see(0, 50, 60);
    answers(7, lab::undo);
    answers(6, lab::undo);
    answers(5, lab::undo);
    answers(7, () -> lab.days(0));
    for (int left = 4; left >= 0; left--) {
      int due = left;
      answers(due, lab::undo);
      answers(due + 2, () -> lab.days(0));
    }
    refuses(lab, BAD_STATE, lab::undo);
    lab.setLimit(2);
    answers(0, lab::undo);
  }

  @Says("The 8 latest changes can be undone.")
  static void promise41EightAreLeftBehindUndoAndNewChanges() {
    Lab lab = new Lab();
    for (int round = 0; round < 5; round++) {
      for (int change = 0; change < 9; change++) lab.setLimit(1 + change);
      answers(7, lab::undo);
      answers(8, lab::limit);
      answers(6, lab::undo);
      lab.setLimit(4);
      lab.setLimit(5);
      lab.setLimit(6);
      answers(7, lab::undo);
      answers(5, lab::limit);
    }
    int[] limits = {4, 7, 6, 5, 4, 3, 2};
    for (int limit : limits) {
      lab.undo();
      answers(limit, lab::limit);
    }
    refuses(lab, BAD_STATE, lab::undo);
  }

  @Says("consists of everything except the program buffer, the error position, the failed command and the output line")
  static void promise41KeepsBufferRecordsAndLine() {
    Lab lab = filled();
    outcome(lab.enter("limit")::run);
    outcome(lab.enter("limit 5;limit 0")::run);
    lab.setLimit(9);
    lab.writeSeries(2);
    lab.enter("limit");
    lab.undo();
    same("2: 77", View.lineOf(lab));
    answers(5, lab::errorPosition);
    answers(1, lab::failedCommand);
    answers(6, () -> lab.type(' '));
    answers(1, lab.enter("8")::run);
    answers(8, lab::limit);
  }

  @Says("Undoes the latest change that was not undone.")
  static void promise41KeepsWhatWasSaved() {
    Lab lab = filled();
    lab.setLimit(8);
    lab.save();
    lab.undo();
    answers(3, lab::limit);
    answers(2, lab::restore);
    answers(8, lab::limit);
  }

  // ---- 42: save

  @Says("Returns the number of prophets.")
  static void promise42AnswersFrom0To8() {
    Lab lab = new Lab();
    answers(0, lab::save);
    for (int number = 1; number <= 8; number++) {
      int n = number;
      lab.addProphet('m', n);
      answers(n, lab::save);
    }
  }

  @Says("Saves the state in place of the state that was saved before.")
  static void promise42ReplacesWhatWasSavedBefore() {
    Lab lab = new Lab().prophets("l1");
    lab.save();
    lab.prophets("m5 s7");
    lab.setLimit(6);
    lab.see(3, 1, 2, 3);
    String second = View.stateOf(lab);
    answers(3, lab::save);
    lab.forget(3);
    answers(3, lab::restore);
    same(second, View.stateOf(lab));
  }

  @Says("Saves the state in place of the state that was saved before.")
  static void promise42SavesAnEmptyStateInPlaceOfAFullOne() {
    Lab lab = new Lab();
    String empty = View.stateOf(lab);
    lab.prophets("l1 m1 d1 t1 s1 l1 m1 d1").seeTimes(0, 30, 5);
    lab.save();
    lab.forget(0);
    lab.undo();
    for (int undone = 0; undone < 7; undone++) lab.undo();
    lab.restore();
    answers(8, lab::prophets);
    Lab other = new Lab();
    other.prophets("l1 m2").see(1, 5);
    for (int undone = 0; undone < 3; undone++) other.undo();
    answers(0, other::save);
    other.prophets("t1").see(2, 5);
    answers(0, other::restore);
    same(empty, View.stateOf(other));
  }

  @Says("Saves the state in place of the state that was saved before.")
  static void promise42ChangesNothingElse() {
    Lab lab = filled();
    lab.setLimit(7);
    lab.see(0, 5);
    lab.writeSeries(1);
    outcome(lab.enter("x")::run);
    lab.enter("limit 5");
    String beside = View.stateOf(lab) + View.pastOf(lab) + View.lineOf(lab);
    lab.save();
    same(beside, View.stateOf(lab) + View.pastOf(lab) + View.lineOf(lab));
    answers(0, lab::errorPosition);
    answers(1, lab::run);
  }

  @Says("A change is a successful call of addProphet, observe, setLimit, forget or run.")
  static void promise42IsNoChange() {
    Lab lab = new Lab().prophets("l1 t1");
    lab.save();
    answers(1, lab::undo);
    lab.save();
    answers(0, lab::undo);
    lab.save();
    refuses(lab, BAD_STATE, lab::undo);
  }

  // ---- 43: restore

  @Says("Throws `IllegalStateException` if no state was saved")
  static void promise43RefusesBeforeTheFirstSave() {
    Lab empty = new Lab();
    refuses(empty, BAD_STATE, empty::restore);
    Lab lab = new Lab().prophets("l1 m3").see(2, 1, 2, 3);
    refuses(lab, BAD_STATE, lab::restore);
    lab.undo();
    refuses(lab, BAD_STATE, lab::restore);
    lab.save();
    answers(2, lab::restore);
  }

  @Says("Returns the number of prophets.")
  static void promise43AnswersFrom0To8() {
    for (int number = 0; number <= 8; number++) {
      Lab lab = new Lab();
      for (int added = 0; added < number; added++) lab.addProphet('s', 1 + added);
      lab.save();
      if (number < 8) lab.addProphet('l', 1);
      else lab.undo();
      int due = number;
      answers(due, lab::restore);
      answers(due, lab::prophets);
    }
  }

  @Says({"Restores the saved state, which stays saved.", "The state that is undone, saved and restored consists of everything"})
  static void promise43RestoresAgainAndAgain() {
    Lab lab = new Lab().prophets("m2 s4").see(3, 4, 8, 15, 16, 23, 42);
    lab.setLimit(7);
    String saved = View.stateOf(lab);
    lab.save();
    for (int again = 0; again < 4; again++) {
      lab.see(3, 108);
      lab.forget(3);
      lab.prophets("d3");
      lab.setLimit(1);
      lab.see(0, 5, 6, 7);
      answers(2, lab::restore);
      same(saved, View.stateOf(lab));
    }
    answers(2, lab::restore);
    same(saved, View.stateOf(lab));
  }

  @Says("Restores the saved state, which stays saved.")
  static void promise43RestoresFullSeries() {
    Lab lab = new Lab().prophets("l1 t1");
    for (int series = 0; series < 4; series++) lab.seeTimes(series, 30, 5 + series);
    lab.save();
    for (int series = 0; series < 4; series++) lab.forget(series);
    lab.see(2, 1, 9);
    lab.restore();
    for (int series = 0; series < 4; series++) {
      int s = series;
      answers(30, () -> lab.days(s));
      answers(5 + s, () -> lab.value(s, 29));
      answers(29, () -> lab.points(0, s));
      answers(0.0, () -> lab.errorSum(0, s));
      refuses(lab, BAD_STATE, () -> lab.observe(s, 1));
    }
  }

  @Says("The state that is undone, saved and restored consists of everything")
  static void promise43BringsBackAFullSeriesInPlaceOfAnother() {
    for (int series = 0; series < 4; series++) {
      int s = series;
      Lab lab = withFullSeries(s);
      String saved = View.stateOf(lab);
      lab.save();
      lab.forget(s);
      lab.seeTimes(s, 30, 9);
      lab.restore();
      same(saved, View.stateOf(lab));
      answers(500 + 29 * 7 % 50, () -> lab.value(s, 29));
    }
  }

  @Says("Restores the saved state")
  static void promise43RestoresKindsAndParameters() {
    Lab lab = new Lab().prophets("m2");
    lab.save();
    lab.undo();
    lab.prophets("d7 t1");
    answers(1, lab::restore);
    answers('m', () -> lab.kind(0));
    answers(2, () -> lab.parameter(0));
    refuses(lab, NO_INDEX, () -> lab.kind(1));
  }

  @Says("Afterwards no change can be undone.")
  static void promise43NoChangeCanBeUndoneAfterwards() {
    Lab lab = new Lab();
    lab.save();
    for (int limit = 1; limit <= 9; limit++) lab.setLimit(limit);
    lab.restore();
    refuses(lab, BAD_STATE, lab::undo);
    lab.setLimit(5);
    lab.setLimit(6);
    answers(1, lab::undo);
    answers(0, lab::undo);
    refuses(lab, BAD_STATE, lab::undo);
    answers(3, lab::limit);
  }

  @Says("Afterwards no change can be undone.")
  static void promise43EightChangesCanBeUndoneAfterARestore() {
    Lab lab = new Lab();
    for (int limit = 1; limit <= 5; limit++) lab.setLimit(limit);
    lab.save();
    lab.restore();
    for (int value = 1; value <= 9; value++) lab.observe(0, value);
    for (int left = 7; left >= 0; left--) {
      int due = left;
      answers(due, lab::undo);
      answers(due + 1, () -> lab.days(0));
    }
    refuses(lab, BAD_STATE, lab::undo);
    answers(5, lab::limit);
  }

  @Says("A change is a successful call of addProphet, observe, setLimit, forget or run.")
  static void promise43ARefusedRestoreKeepsTheChanges() {
    Lab lab = new Lab();
    lab.setLimit(5);
    lab.setLimit(6);
    answers(BAD_STATE, lab::restore);
    answers(6, lab::limit);
    answers(1, lab::undo);
    answers(0, lab::undo);
  }

  @Says("consists of everything except the program buffer, the error position, the failed command and the output line")
  static void promise43KeepsBufferRecordsAndLine() {
    Lab lab = filled();
    outcome(lab.enter("limit")::run);
    outcome(lab.enter("limit 5;limit 0")::run);
    lab.writeSeries(2);
    lab.enter("lim");
    lab.restore();
    same("2: 77", View.lineOf(lab));
    answers(5, lab::errorPosition);
    answers(1, lab::failedCommand);
    answers(4, () -> lab.type('i'));
    answers(1, lab.enter("t 7")::run);
    answers(7, lab::limit);
    answers(0, lab::undo);
  }
}
