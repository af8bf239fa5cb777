import java.lang.reflect.InvocationTargetException;
import java.lang.reflect.Method;
import java.lang.reflect.Modifier;
import java.util.ArrayList;
import java.util.Arrays;
import java.util.Comparator;
import java.util.List;

/** Promises 1 to 43: long runs of calls, each answered by the class and by the model. */
public final class ModelTest extends Check {
  private static final int RUNS = 1800;
  private static final int CALLS = 512;
  private static final int QUESTIONS_AT_END = 210;
  private static final int[] EDGES = {-1, 0, 1, 2, 3, 4, 5, 8, 9, 10, 29, 30, 31, 999, 1000, Integer.MIN_VALUE, Integer.MAX_VALUE};

  /** The same runs each time: no random source is asked. */
  private static long seed = 20261119L;

  private final ForecastLab lab = new ForecastLab();
  private final Model model = new Model();
  private final List<Method> methods = new ArrayList<>();
  private final StringBuilder trace = new StringBuilder();
  private int calls = 0;

  private ModelTest() {
    for (Method method : ForecastLab.class.getDeclaredMethods()) {
      if (Modifier.isPublic(method.getModifiers())) methods.add(method);
    }
    methods.sort(Comparator.comparing(Method::getName));
  }

  public static void main(String[] args) {
    for (int run = 0; run < RUNS; run++) {
      int number = run;
      answers("as due", () -> new ModelTest().compare(number % 6));
    }
    end("ModelTest");
  }

  private static int below(int bound) {
    seed = seed * 6364136223846793005L + 1442695040888963407L;
    return (int) ((seed >>> 33) % bound);
  }

  /** The styles differ in what is called most, so that series get full, changes are undone, programs are run. */
  private String compare(int style) {
    String wrong = style < 4 ? addProphets() : null;
    // One run of three goes on to the last call; the others leave room to ask all that can be asked.
    int length = below(3) == 0 ? CALLS : 20 + below(CALLS - QUESTIONS_AT_END - 20);
    while (wrong == null && calls < length) {
      int choice = below(10);
      if (choice < 3 && style != 5) wrong = call("observe", below(style < 2 ? 2 : 4), value(style));
      else if (choice < 4 && style >= 3) wrong = program();
      else if (choice < 5 && style == 2) wrong = call("undo");
      else wrong = anyCall();
    }
    if (wrong == null) wrong = askAll();
    return wrong == null ? "as due" : trace + wrong;
  }

  private String addProphets() {
    String wrong = null;
    for (int number = below(9); wrong == null && number > 0; number--) {
      wrong = call("addProphet", "lmdts".charAt(below(5)), 1 + below(9));
    }
    return wrong;
  }

  private int value(int style) {
    return below(20) == 0 ? below(1000) : style % 2 == 0 ? 10 + below(6) : below(1000);
  }

  private String anyCall() {
    Method method = methods.get(below(methods.size()));
    String name = method.getName();
    boolean isHarsh = name.equals("forget") || name.equals("restore") || name.equals("run") || name.equals("type");
    if (isHarsh && below(6) != 0) return null;
    Object[] arguments = new Object[method.getParameterCount()];
    for (int i = 0; i < arguments.length; i++) {
      boolean isChar = method.getParameterTypes()[i] == char.class;
      arguments[i] = isChar ? (Object) "lmdtsxp ;=0\0\u016c".charAt(below(13)) : (Object) number(name, i);
    }
    return call(method, arguments);
  }

  private int number(String name, int place) {
    if (below(8) == 0) return EDGES[below(EDGES.length)];
    if (place > 0 || name.equals("charAt")) return below(32);
    return below(name.equals("setLimit") || name.equals("prophetByPoints") ? 9 : 5);
  }

  private String program() {
    StringBuilder text = new StringBuilder();
    for (int more = below(4); more >= 0; more--) text.append(command()).append(more > 0 ? ";" : "");
    if (below(4) == 0 && text.length() > 0) text.setCharAt(below(text.length()), "lmdts 0;=,x".charAt(below(11)));
    if (below(8) == 0) text.setLength(below(text.length() + 1));
    String wrong = null;
    for (int i = 0; wrong == null && i < text.length(); i++) wrong = call("type", text.charAt(i));
    if (wrong == null) wrong = call("run");
    if (wrong == null) wrong = call("errorPosition");
    return wrong != null ? wrong : call("failedCommand");
  }

  private String command() {
    int digit = below(12) == 0 ? below(10) : 1 + below(3);
    switch (below(4)) {
      case 0:
        return "limit " + digit;
      case 1:
        return below(3) == 0 ? "forget " + digit : "limit 3";
      case 2:
        return below(2) == 0 ? "prophet l" : "prophet " + "mds".charAt(below(3)) + digit;
      default:
        StringBuilder text = new StringBuilder("see " + digit + "=" + below(1000));
        for (int more = below(5); more > 0; more--) text.append(',').append(below(100));
        return text.toString();
    }
  }

  private String call(String name, Object... arguments) {
    for (Method method : methods) {
      if (method.getName().equals(name)) return call(method, arguments);
    }
    throw new IllegalArgumentException(name);
  }

  /** Null if the answers are the same. */
  private String call(Method method, Object... arguments) {
    if (calls >= CALLS) return null;
    calls++;
    String text = method.getName() + Arrays.toString(arguments) + " ";
    trace.append(text);
    Object got = outcome(lab, method, arguments);
    Object due = outcome(model, modelMethod(method), arguments);
    return due.equals(got) ? null : "answered " + got + ", due is " + due;
  }

  private String askAll() {
    String wrong = null;
    for (Method method : methods) {
      boolean isQuestion = !method.getName().matches(
          "addProphet|observe|setLimit|forget|write.*|type|run|undo|save|restore");
      if (!isQuestion) continue;
      for (int first = 0; wrong == null && first < (method.getParameterCount() > 0 ? 8 : 1); first++) {
        Object[] arguments = new Object[method.getParameterCount()];
        boolean isOfProphet = method.getName().matches("hasForecast|forecast.*|error.*|points");
        for (int i = 0; i < arguments.length; i++) arguments[i] = i == 0 ? first : below(isOfProphet ? 4 : 9);
        wrong = call(method, arguments);
      }
    }
    return wrong;
  }

  private static Method modelMethod(Method method) {
    try {
      return Model.class.getMethod(method.getName(), method.getParameterTypes());
    } catch (NoSuchMethodException missing) {
      throw new IllegalArgumentException(missing);
    }
  }

  private static Object outcome(Object target, Method method, Object[] arguments) {
    try {
      return method.invoke(target, arguments);
    } catch (InvocationTargetException thrown) {
      return thrown.getCause().getClass();
    } catch (IllegalAccessException hidden) {
      throw new IllegalArgumentException(hidden);
    }
  }
}
