import java.util.regex.Matcher;
import java.util.regex.Pattern;

/** The grammar of programs as a pattern. Not a test by itself. */
final class Grammar {
  private static final String COMMAND =
      "(?:prophet (?:[lt]|[mds][0-9])|see [0-9]=[0-9]{1,3}(?:,[0-9]{1,3})*|limit [0-9]|forget [0-9])";
  private static final Pattern PROGRAM = Pattern.compile(COMMAND + "(?:;" + COMMAND + ")*");

  private Grammar() {
  }

  static boolean isProgram(String text) {
    return PROGRAM.matcher(text).matches();
  }

  /** The length of the longest beginning of the text with which a program can begin. */
  static int errorPosition(String text) {
    for (int length = text.length(); length > 0; length--) {
      Matcher matcher = PROGRAM.matcher(text.substring(0, length));
      if (matcher.matches() || matcher.hitEnd()) return length;
    }
    return 0;
  }
}
