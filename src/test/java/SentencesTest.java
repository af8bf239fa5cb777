import java.io.IOException;
import java.lang.reflect.Method;
import java.nio.file.Files;
import java.nio.file.Path;
import java.util.ArrayList;
import java.util.List;

/** Whether each sentence of the document's promises and terms has a test of its own, and each test its sentence. */
public final class SentencesTest extends Check {
  private static final Class<?>[] TESTS = {
      ChangeTest.class, SeriesTest.class, ProphetTest.class, OutputTest.class, ProgramTest.class, UndoTest.class};
  private static final int PROMISES = 43;

  /** Beginnings of sentences of the terms that say nothing that a test could hold the class to. */
  private static final String[] UNTESTED = {
      "Values are observed day by day", "The class computes", "This class is not thread-safe", "Ahead of the calls"};

  public static void main(String[] args) throws IOException {
    String document = Files.readString(Path.of("..", "shared", "DOC.md"));
    String common = section(document, "## What it is") + section(document, "## Terms");
    for (int promise = 1; promise <= PROMISES; promise++) {
      String own = section(document, "## Promise " + promise + ":");
      List<String> quotes = quotesOf(promise);
      for (String sentence : sentencesOf(own)) isQuoted(sentence, quotes);
      for (String quote : quotes) isThere(quote, own + common);
    }
    List<String> all = new ArrayList<>();
    for (int promise = 1; promise <= PROMISES; promise++) all.addAll(quotesOf(promise));
    for (String sentence : sentencesOf(section(document, "## Terms"))) isQuoted(sentence, all);
    end("SentencesTest");
  }

  private static void isThere(String quote, String text) {
    answers("there", () -> text.contains(quote) ? "there" : "not there: " + quote);
  }

  private static void isQuoted(String sentence, List<String> quotes) {
    answers("tested", () -> quotes.stream().anyMatch(sentence::contains) ? "tested" : "not tested: " + sentence);
  }

  /** From the line behind the heading to the next heading. */
  private static String section(String document, String heading) {
    int start = document.indexOf("\n", document.indexOf("\n" + heading) + 1);
    int end = document.indexOf("\n## ", start);
    return document.substring(start, end < 0 ? document.length() : end);
  }

  private static List<String> sentencesOf(String section) {
    List<String> sentences = new ArrayList<>();
    for (String paragraph : section.split("\n")) {
      // A promise begins with its call, a paragraph of the terms with its name.
      String text = paragraph.replaceFirst("^`[^`]*\\(.*\\)[^`]*`: ", "").replaceFirst("^[A-Z][a-z]+\\. ", "");
      for (String sentence : text.split("(?<=\\.) (?=[A-Z])")) {
        if (!sentence.isBlank() && !isUntested(sentence)) sentences.add(sentence);
      }
    }
    return sentences;
  }

  private static boolean isUntested(String sentence) {
    for (String beginning : UNTESTED) {
      if (sentence.startsWith(beginning)) return true;
    }
    return false;
  }

  private static List<String> quotesOf(int promise) {
    List<String> quotes = new ArrayList<>();
    String name = String.format("promise%02d", promise);
    for (Class<?> tests : TESTS) {
      for (Method test : testsOf(tests)) {
        Says says = test.getAnnotation(Says.class);
        if (test.getName().startsWith(name) && says != null) quotes.addAll(List.of(says.value()));
      }
    }
    return quotes;
  }
}
