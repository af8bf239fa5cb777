import java.io.IOException;
import java.lang.reflect.InvocationTargetException;
import java.lang.reflect.Method;
import java.nio.file.Files;
import java.nio.file.Path;
import java.util.regex.Matcher;
import java.util.regex.Pattern;

/** Whether the calls that README.md shows answer what stands behind them. */
public final class ReadmeTest extends Check {
  private static final Pattern NEW = Pattern.compile("ForecastLab lab = new ForecastLab\\(\\);");
  private static final Pattern TYPED = Pattern.compile("type\\(lab, \"(.*)\"\\);");
  /** A call, and behind it the answer, or the name of an exception, and perhaps what it means. */
  private static final Pattern CALL = Pattern.compile("lab\\.(\\w+)\\((.*)\\); +// ([^:]+)(:.*)?");

  private static ForecastLab lab;

  public static void main(String[] args) throws IOException {
    boolean inside = false;
    for (String line : Files.readAllLines(Path.of("README.md"))) {
      if (line.startsWith("```")) inside = line.equals("```java");
      else if (inside) take(line);
    }
    end("ReadmeTest");
  }

  private static void take(String line) {
    Matcher typed = TYPED.matcher(line);
    Matcher call = CALL.matcher(line);
    if (NEW.matcher(line).matches()) lab = new ForecastLab();
    else if (typed.matches()) typed.group(1).chars().forEach(character -> lab.type((char) character));
    else if (call.matches()) answers(line + " " + call.group(3), () -> line + " " + answer(call.group(1), call.group(2)));
    else same("a line that is read", line);
  }

  private static String answer(String name, String arguments) {
    String[] texts = arguments.isEmpty() ? new String[0] : arguments.split(", ");
    Object[] values = new Object[texts.length];
    for (int i = 0; i < texts.length; i++) {
      values[i] = texts[i].startsWith("'") ? (Object) texts[i].charAt(1) : (Object) Integer.valueOf(texts[i]);
    }
    try {
      return methodNamed(name).invoke(lab, values).toString();
    } catch (InvocationTargetException thrown) {
      return thrown.getCause().getClass().getSimpleName();
    } catch (IllegalAccessException hidden) {
      return "hidden";
    }
  }

  private static Method methodNamed(String name) {
    for (Method method : ForecastLab.class.getMethods()) {
      if (method.getName().equals(name)) return method;
    }
    throw new IllegalArgumentException(name);
  }
}
