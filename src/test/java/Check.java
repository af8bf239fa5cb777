/** Counts and prints the answers that are not due. Not a test by itself. */
final class Check {
  interface Call {
    Object answer();
  }

  private static int wrong = 0;

  private Check() {
  }

  static void answers(String what, Object due, Call call) {
    Object got = outcome(call);
    if (!due.equals(got)) report(what, got, due);
  }

  /** The call must throw exactly this class, and change nothing that can be seen. */
  static void fails(ForecastLab lab, String what, Class<? extends RuntimeException> due, Call call) {
    String before = View.of(lab);
    Object got = outcome(call);
    if (!due.equals(got)) report(what, got, due);
    answers(what + " changes nothing", before, () -> View.of(lab));
  }

  /** The answer of a call, or the class of what it throws. */
  static Object outcome(Call call) {
    try {
      return call.answer();
    } catch (RuntimeException thrown) {
      return thrown.getClass();
    }
  }

  static void end(String test) {
    System.out.println(wrong == 0 ? test + ": all answers are as due" : test + ": " + wrong + " answers are not as due");
    if (wrong != 0) System.exit(1);
  }

  private static void report(String what, Object got, Object due) {
    wrong++;
    if (wrong <= 40) System.out.println(what + " answered\n  " + got + "\n  due is\n  " + due);
  }
}
