import java.io.IOException;
import java.lang.reflect.Executable;
import java.lang.reflect.Field;
import java.lang.reflect.Method;
import java.lang.reflect.Modifier;
import java.nio.file.Files;
import java.nio.file.Path;
import java.util.ArrayList;
import java.util.Arrays;
import java.util.HashSet;
import java.util.List;
import java.util.Set;
import java.util.TreeSet;

/** The public face as the document lists it, with its exceptions, and nothing beside it. */
public final class FaceTest extends Check {
  public static void main(String[] args) throws IOException {
    answers(faceOfDocument(), () -> faceOfClass());
    answers("public final", () -> Modifier.toString(ForecastLab.class.getModifiers()));
    answers(new TreeSet<String>(), () -> twiceNamed());
    end("FaceTest");
  }

  private static Set<String> faceOfDocument() throws IOException {
    Set<String> face = new TreeSet<>();
    boolean inside = false;
    for (String line : Files.readAllLines(Path.of("..", "shared", "DOC.md"))) {
      if (line.startsWith("public final class")) inside = true;
      else if (line.equals("}")) inside = false;
      else if (inside) face.add(withoutNames(line.trim()));
    }
    return face;
  }

  /** "public int days(int series) throws X;" becomes "public int days(int) throws X". */
  private static String withoutNames(String line) {
    return line.replace(";", "").replaceAll("(int|char) \\w+([,)])", "$1$2").replace(", ", ",");
  }

  private static Set<String> faceOfClass() {
    Set<String> face = new TreeSet<>();
    for (Executable constructor : ForecastLab.class.getDeclaredConstructors()) face.add(textOf(constructor));
    for (Method method : ForecastLab.class.getDeclaredMethods()) {
      if (!Modifier.isPrivate(method.getModifiers()) && !method.isSynthetic()) face.add(textOf(method));
    }
    for (Field field : ForecastLab.class.getDeclaredFields()) {
      if (!Modifier.isPrivate(field.getModifiers())) face.add(field.toString());
    }
    return face;
  }

  private static String textOf(Executable member) {
    return member.toGenericString().replace("ForecastLab.", "").replaceAll("java\\.(lang|util)\\.", "");
  }

  /** Methods of the class that have the name of one of the face, and are none of it. */
  private static Set<String> twiceNamed() {
    Set<String> publicNames = new HashSet<>();
    for (Method method : ForecastLab.class.getDeclaredMethods()) {
      if (Modifier.isPublic(method.getModifiers())) publicNames.add(method.getName());
    }
    List<Class<?>> classes = new ArrayList<>(Arrays.asList(ForecastLab.class.getDeclaredClasses()));
    classes.add(ForecastLab.class);
    Set<String> twice = new TreeSet<>();
    for (Class<?> type : classes) {
      for (Method method : type.getDeclaredMethods()) {
        boolean isFace = Modifier.isPublic(method.getModifiers()) && type == ForecastLab.class;
        if (!isFace && publicNames.contains(method.getName())) twice.add(method.getName());
      }
    }
    return twice;
  }
}
