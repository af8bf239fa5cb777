import java.io.IOException;
import java.lang.reflect.Executable;
import java.lang.reflect.Field;
import java.lang.reflect.Modifier;
import java.nio.file.Files;
import java.nio.file.Path;
import java.util.ArrayList;
import java.util.Arrays;
import java.util.List;
import java.util.Set;
import java.util.TreeSet;
import java.util.regex.Matcher;
import java.util.regex.Pattern;

/** Those rules of ../shared/LANGUAGE.md that can be seen by looking for words, or by asking the compiled classes. */
public final class LanguageTest extends Check {
  private static final Path SOURCE = Path.of("src/main/java/ForecastLab.java");
  private static final int MOST_CLASSES = 12;
  private static final int MOST_FIELDS = 20;
  private static final int MOST_PARAMETERS = 7;
  private static final int MOST_LINES_OF_A_METHOD = 60;

  private static final String[] FORBIDDEN = {
      "->", "::", "\\bpackage\\b", "\\btry\\b", "\\bcatch\\b", "\\bfinally\\b", "\\bassert\\b", "\\bsynchronized\\b",
      "\\binstanceof\\b", "\\bstatic \\{", "Exact\\b", "\\bprotected\\b", "\\bequals\\b", "\\bhashCode\\b", "\\btoString\\b",
      "[^\\x00-\\x7f]", "\" *\\+", "\\+ *\"", "\\[\\]\\[\\]", "\\b(Double|Float|Object|Character|Boolean|Byte|Short)\\b"};

  private static final Set<String> LIBRARY_CALLS = Set.of("System.arraycopy", "Math.min", "Math.max", "Math.abs");

  private static final Set<Class<?>> NUMBERS = Set.of(
      int.class, long.class, short.class, byte.class, char.class, boolean.class, double.class, float.class);

  /** Rule 6: an exception is made where it is thrown. */
  private static final Pattern WRITTEN_THROW = Pattern.compile(
      "throw new (IllegalState|IllegalArgument|IndexOutOfBounds|Arithmetic|UnsupportedOperation|NoSuchElement)Exception\\(\\);");

  public static void main(String[] args) throws IOException {
    List<String> lines = Files.readAllLines(SOURCE);
    String code = String.join("\n", lines).replaceAll("(?s)/\\*.*?\\*/", "").replaceAll("//[^\n]*", "");
    for (String forbidden : FORBIDDEN) answers(Set.of(), () -> found(forbidden, code));
    answers(List.of("import java.util.NoSuchElementException;"),
        () -> lines.stream().filter(line -> line.startsWith("import")).toList());
    answers(Set.of(), () -> withoutAll(found("\\b[A-Z]\\w*[a-z]\\w*\\.\\w+", code.replaceAll("import .*", "")), LIBRARY_CALLS));
    answers(Set.of(), () -> found("\\bthrow\\b[^;]*;", WRITTEN_THROW.matcher(code).replaceAll("")));
    answers(Set.of(), () -> longMethods(List.of(code.split("\n"))));
    List<Class<?>> classes = allClasses(ForecastLab.class);
    isTrue("few classes", classes.size() <= MOST_CLASSES);
    for (Class<?> type : classes) isWithinRules(type, classes);
    end("LanguageTest");
  }

  private static Set<String> found(String pattern, String text) {
    Set<String> found = new TreeSet<>();
    for (Matcher matcher = Pattern.compile(pattern).matcher(text); matcher.find(); ) found.add(matcher.group());
    return found;
  }

  private static Set<String> withoutAll(Set<String> words, Set<String> allowed) {
    words.removeAll(allowed);
    return words;
  }

  /** The first lines of methods that are too long. The file is indented by two, so a method ends at its own indent. */
  private static Set<String> longMethods(List<String> lines) {
    Set<String> found = new TreeSet<>();
    for (int start = 0; start < lines.size(); start++) {
      Matcher head = Pattern.compile("( {2}| {4})[^ ].*\\(.*[^;]").matcher(lines.get(start));
      if (!head.matches()) continue;
      int length = lines.subList(start, lines.size()).indexOf(head.group(1) + "}");
      if (length >= MOST_LINES_OF_A_METHOD) found.add(lines.get(start));
    }
    return found;
  }

  private static List<Class<?>> allClasses(Class<?> outer) {
    List<Class<?>> all = new ArrayList<>();
    all.add(outer);
    for (Class<?> inner : outer.getDeclaredClasses()) all.addAll(allClasses(inner));
    return all;
  }

  private static void isWithinRules(Class<?> type, List<Class<?>> own) {
    boolean isInside = type != ForecastLab.class;
    isTrue(type + " is static", !isInside || Modifier.isStatic(type.getModifiers()));
    isTrue(type + " is hidden", !isInside || !Modifier.isPublic(type.getModifiers()));
    int fields = 0;
    for (Field field : type.getDeclaredFields()) {
      if (!Modifier.isStatic(field.getModifiers())) fields++;
      isTrue(field + " is of an allowed kind", isAllowed(field, own));
    }
    isTrue(type + " has few fields", fields <= MOST_FIELDS);
    List<Executable> members = new ArrayList<>(Arrays.asList(type.getDeclaredMethods()));
    members.addAll(Arrays.asList(type.getDeclaredConstructors()));
    for (Executable member : members) {
      isTrue(member + " has few parameters", member.getParameterCount() <= MOST_PARAMETERS);
    }
  }

  /** Static fields are final numbers and texts; the other ones hold numbers, own classes, and rows of both. */
  private static boolean isAllowed(Field field, List<Class<?>> own) {
    Class<?> type = field.getType();
    if (Modifier.isStatic(field.getModifiers())) {
      return Modifier.isFinal(field.getModifiers()) && (type == String.class || NUMBERS.contains(type));
    }
    Class<?> element = type.isArray() ? type.getComponentType() : type;
    return NUMBERS.contains(element) || own.contains(element);
  }

  private static void isTrue(String sentence, boolean holds) {
    same(sentence, holds ? sentence : "not so");
  }
}
