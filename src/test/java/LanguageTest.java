import java.io.IOException;
import java.nio.file.Files;
import java.nio.file.Path;
import java.util.regex.Matcher;
import java.util.regex.Pattern;

/** What of ../shared/LANGUAGE.md can be seen in the class's text line by line; run where src is. */
public final class LanguageTest {
  private static final Path SOURCE = Path.of("src/main/java/SetFamilies.java");
  private static final int MOST_LINES_OF_A_METHOD = 60;
  private static final int MOST_PARAMETERS = 7;
  private static final String[] FORBIDDEN = {
    "^package ", "^import (?!java\\.util\\.(Arrays|ArrayList|List);)", "->", "::", "\\bfinally\\b", "\\bsynchronized\\b",
    "\\bassert\\b", "\\btry\\b", "\\bcatch\\b", "\\w+Exact\\b", "\\bSystem\\.(?!arraycopy\\b)", "\\bRandom\\b", "\\bThread\\b",
    "\\bvar\\b", "\\bstatic \\{", "\\b(protected|volatile|transient|native)\\b", "[^\\x00-\\x7f]",
    "\\bstatic (?!final |int |long |boolean |void )\\w",
    "throw new (?!(IllegalState|IllegalArgument|IndexOutOfBounds)Exception\\(\"[^\"]*\"\\);)",
  };
  private static final Pattern METHOD = Pattern.compile("^ +[\\w\\[\\] ]*\\w\\(([^)]*)\\)( throws [\\w, ]+)? \\{$");

  public static void main(String[] args) throws IOException {
    String[] lines = Files.readString(SOURCE).split("\n");
    int start = -1;
    for (int i = 0; i < lines.length; i++) {
      Check.about("line " + (i + 1));
      String code = lines[i].replaceAll("//.*|^ *(/\\*)?\\*.*", "");
      for (String word : FORBIDDEN) {
        Check.no(word + " stands in " + code, Pattern.compile(word).matcher(code).find());
      }
      Matcher method = METHOD.matcher(code);
      if (method.matches() && !code.matches(" +(for|if|while|switch|\\} else if) .*")) {
        start = i;
        Check.yes("few parameters", method.group(1).split(",").length <= MOST_PARAMETERS);
      }
      if (start >= 0 && code.equals(lines[start].replaceAll("\\S.*", "}"))) {
        Check.yes("a method of " + (i - start + 1) + " lines is short", i - start + 1 <= MOST_LINES_OF_A_METHOD);
        start = -1;
      }
    }
    Check.end();
  }
}
