import java.io.IOException;
import java.nio.file.Files;
import java.nio.file.Path;
import java.util.ArrayList;
import java.util.Arrays;
import java.util.LinkedHashMap;
import java.util.List;
import java.util.Map;

/** The document's sentences: a test says which one it is about, and none may stay without a test. */
final class Document {
  private static final Path FILE = Path.of("../shared/DOC.md");
  private static final Map<String, List<String>> WITHOUT_TEST = new LinkedHashMap<>();
  private static String section = "";

  private Document() {}

  static void open() throws IOException {
    boolean inCode = false;
    List<String> sentences = new ArrayList<>();
    for (String line : Files.readAllLines(FILE)) {
      if (line.startsWith("```")) {
        inCode = !inCode;
      } else if (line.startsWith("## ")) {
        sentences = new ArrayList<>();
        WITHOUT_TEST.put(line.substring(3), sentences);
      } else if (!inCode && tells(line)) {
        sentences.addAll(Arrays.asList(line.split("(?<=\\.) (?=[A-Z\"])")));
      }
    }
  }

  /** Headings and signatures stand for what follows; the face has a test of its own. */
  private static boolean tells(String line) {
    return line.matches(".*[a-z].*") && !line.startsWith("#") && !line.startsWith("`") && !line.startsWith("----");
  }

  static void section(String heading) {
    section = heading;
  }

  static void says(String sentence, Runnable test) {
    take(sentence);
    int before = Check.checksSoFar();
    try {
      test.run();
    } catch (RuntimeException e) {
      Check.same("the test itself", "ends normally", "throws " + e);
    }
    Check.yes("something is tested", Check.checksSoFar() > before);
  }

  /** For sentences that tell of no call and of no answer. */
  static void namesNoCase(String sentence) {
    take(sentence);
  }

  private static void take(String sentence) {
    Check.about(section + ", '" + sentence + "'");
    List<String> sentences = WITHOUT_TEST.get(section);
    Check.yes("the document says so", sentences != null && sentences.remove(sentence));
  }

  static void end() {
    Check.about("sentences without a test");
    Check.no("the document has no sections", WITHOUT_TEST.isEmpty());
    for (Map.Entry<String, List<String>> entry : WITHOUT_TEST.entrySet()) {
      Check.same(entry.getKey(), "[]", entry.getValue().toString());
    }
  }
}
