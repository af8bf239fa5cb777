import java.io.IOException;
import java.nio.file.Files;
import java.nio.file.Path;
import java.util.List;
import java.util.regex.Matcher;
import java.util.regex.Pattern;

/** Those rules of ../shared/LANGUAGE.md that can be seen by looking for words. */
public final class LanguageTest {
  private static final String[] FORBIDDEN = {
      "->", "::", "\\bpackage\\b", "\\btry\\b", "\\bcatch\\b", "\\bfinally\\b", "\\bassert\\b", "\\bsynchronized\\b",
      "\\binstanceof\\b", "\\bstatic \\{", "Exact\\b", "\\bDouble\\.", "\\bSystem\\.(?!arraycopy\\b)", "\\bprotected\\b",
      "Math\\.(?!min\\b|max\\b|abs\\b)", "\\bequals\\b", "\\bhashCode\\b", "\\btoString\\b", "\\bstatic (?!final)\\w+ \\w+( =|;)",
      "[^\\x00-\\x7f]"};

  public static void main(String[] args) throws IOException {
    List<String> lines = Files.readAllLines(Path.of("src/main/java/ForecastLab.java"));
    String code = String.join("\n", lines).replaceAll("(?s)/\\*.*?\\*/", "").replaceAll("//[^\n]*", "");
    for (String forbidden : FORBIDDEN) {
      Matcher matcher = Pattern.compile(forbidden).matcher(code);
      Check.answers("code outside the language: " + forbidden, "none", () -> matcher.find() ? matcher.group() : "none");
    }
    Check.answers("imports", List.of("import java.util.NoSuchElementException;"),
        () -> lines.stream().filter(line -> line.startsWith("import")).toList());
    Check.answers("at most twelve classes", true, () -> code.split("\\bclass ").length - 1 <= 12);
    Check.end("LanguageTest");
  }
}
