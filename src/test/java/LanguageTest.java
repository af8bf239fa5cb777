import java.io.IOException;
import java.nio.file.Files;
import java.nio.file.Path;
import java.util.List;
import java.util.regex.Matcher;
import java.util.regex.Pattern;

/** Those rules of ../shared/LANGUAGE.md that can be seen by looking for words. */
public final class LanguageTest extends Check {
  private static final String[] FORBIDDEN = {
      "->", "::", "\\bpackage\\b", "\\btry\\b", "\\bcatch\\b", "\\bfinally\\b", "\\bassert\\b", "\\bsynchronized\\b",
      "\\binstanceof\\b", "\\bstatic \\{", "Exact\\b", "\\bDouble\\.", "\\bSystem\\.(?!arraycopy\\b)", "\\bprotected\\b",
      "Math\\.(?!min\\b|max\\b|abs\\b)", "\\bequals\\b", "\\bhashCode\\b", "\\btoString\\b", "\\bstatic (?!final)\\w+ \\w+( =|;)",
      "[^\\x00-\\x7f]"};

  public static void main(String[] args) throws IOException {
    List<String> lines = Files.readAllLines(Path.of("src/main/java/ForecastLab.java"));
    String code = String.join("\n", lines).replaceAll("(?s)/\\*.*?\\*/", "").replaceAll("//[^\n]*", "");
    for (String forbidden : FORBIDDEN) {
      Matcher matcher = Pattern.compile(forbidden).matcher(code);
      answers("none", () -> matcher.find() ? "outside the language: " + matcher.group() : "none");
    }
    answers(List.of("import java.util.NoSuchElementException;"),
        () -> lines.stream().filter(line -> line.startsWith("import")).toList());
    int classes = code.split("\\bclass ").length - 1;
    answers("at most twelve classes", () -> classes <= 12 ? "at most twelve classes" : classes + " classes");
    end("LanguageTest");
  }
}
