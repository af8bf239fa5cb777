import java.lang.reflect.InvocationTargetException;
import java.lang.reflect.Method;
import java.util.ArrayList;
import java.util.Comparator;
import java.util.List;
import java.util.NoSuchElementException;
import java.util.function.IntFunction;

/** Runs the tests of a class, and counts and prints the answers that are not due. Not a test by itself. */
abstract class Check {
  interface Call {
    Object answer();
  }

  static final Class<?> NO_INDEX = IndexOutOfBoundsException.class;
  static final Class<?> BAD_ARGUMENT = IllegalArgumentException.class;
  static final Class<?> BAD_STATE = IllegalStateException.class;
  static final Class<?> NO_ELEMENT = NoSuchElementException.class;
  static final Class<?> NO_QUOTIENT = ArithmeticException.class;
  static final Class<?> FAILED = UnsupportedOperationException.class;

  private static final int MOST_PRINTED = 40;
  private static String test = "";
  private static int checks = 0;
  private static int wrong = 0;

  /** Each test is a method promiseNN.. of the class, where NN is the number of its promise. */
  static void runAll(Class<?> tests) {
    for (Method method : testsOf(tests)) {
      test = method.getName();
      int checksBefore = checks;
      run(method);
      if (checks == checksBefore) report("checks", "none", "some");
    }
    end(tests.getSimpleName());
  }

  static List<Method> testsOf(Class<?> tests) {
    List<Method> found = new ArrayList<>();
    for (Method method : tests.getDeclaredMethods()) {
      if (method.getName().matches("promise[0-9]{2}.*")) found.add(method);
    }
    found.sort(Comparator.comparing(Method::getName));
    return found;
  }

  private static void run(Method method) {
    try {
      method.invoke(null);
    } catch (InvocationTargetException thrown) {
      report("the test", "ended by " + thrown.getCause() + " at " + thrown.getCause().getStackTrace()[0], "its end");
    } catch (IllegalAccessException hidden) {
      report("the test", "hidden", "its end");
    }
  }

  static void answers(Object due, Call call) {
    compare("answer", due, outcome(call));
  }

  static void same(Object due, Object got) {
    compare("answer", due, got);
  }

  /** The call must throw exactly this class, and change nothing that later calls tell. */
  static void refuses(Lab lab, Class<?> due, Call call) {
    String before = View.of(lab);
    compare("answer", due, outcome(call));
    compare("behind it", before, View.of(lab));
  }

  static void refusesNoSuchSeries(Lab lab, IntFunction<Object> call) {
    for (int series : new int[] {-1, 4, 5, Integer.MIN_VALUE, Integer.MAX_VALUE}) {
      refuses(lab, NO_INDEX, () -> call.apply(series));
    }
  }

  /** The answer of a call, or the class of what it throws. */
  static Object outcome(Call call) {
    try {
      return call.answer();
    } catch (RuntimeException thrown) {
      return thrown.getClass();
    }
  }

  static void end(String tests) {
    System.out.println(tests + ": " + checks + " answers, " + wrong + " of them not as due");
    if (wrong != 0) System.exit(1);
  }

  private static void compare(String what, Object due, Object got) {
    checks++;
    if (!due.equals(got)) report(what, got, due);
  }

  private static void report(String what, Object got, Object due) {
    wrong++;
    if (wrong > MOST_PRINTED) return;
    System.out.println(test + placeInTest() + ": " + what + "\n  " + got + "\n  due is\n  " + due);
  }

  private static String placeInTest() {
    return StackWalker.getInstance().walk(frames -> frames
        .filter(frame -> frame.getClassName().endsWith("Test"))
        .filter(frame -> !frame.getMethodName().equals("main"))
        .findFirst().map(frame -> " (line " + frame.getLineNumber() + ")").orElse(""));
  }
}
