import java.io.ByteArrayOutputStream;
import java.io.IOException;
import java.io.PrintStream;
import java.lang.reflect.Method;
import java.lang.reflect.Modifier;
import java.net.URL;
import java.net.URLClassLoader;
import java.nio.charset.StandardCharsets;
import java.nio.file.Files;
import java.nio.file.Path;
import java.util.ArrayList;
import java.util.List;
import java.util.regex.Matcher;
import java.util.regex.Pattern;
import javax.tools.ToolProvider;

/** README.md tells of every method, and its example prints what the comments behind it say. */
public final class ReadmeTest {
  private static final Pattern EXAMPLE = Pattern.compile("```java\n(.*?)```", Pattern.DOTALL);
  private static final Pattern PRINTED = Pattern.compile("System\\.out\\.println\\(.*\\); *// (\\S+)");

  public static void main(String[] args) throws IOException, ReflectiveOperationException {
    String readme = Files.readString(Path.of("README.md"));
    Check.about("README.md");
    namesAllMethods(readme);
    Matcher example = EXAMPLE.matcher(readme);
    Check.yes("there is an example", example.find());
    List<String> wants = new ArrayList<>();
    Matcher printed = PRINTED.matcher(example.group(1));
    while (printed.find()) {
      wants.add(printed.group(1));
    }
    Check.yes("the example prints something", wants.size() > 3);
    Check.same("what the example prints", wants.toString(), outputOf(example.group(1)).toString());
    Check.end();
  }

  private static void namesAllMethods(String readme) {
    for (Method method : SetFamilies.class.getDeclaredMethods()) {
      if (Modifier.isPublic(method.getModifiers())) {
        Check.yes("it tells of " + method.getName(), readme.contains("`" + method.getName() + "("));
      }
    }
  }

  private static List<String> outputOf(String program) throws IOException, ReflectiveOperationException {
    Path place = Files.createTempDirectory("readme");
    Path source = Files.writeString(place.resolve("Example.java"), program);
    int compiled = ToolProvider.getSystemJavaCompiler().run(null, null, null, "-proc:none", "-d", place.toString(),
        "-cp", System.getProperty("java.class.path"), source.toString());
    Check.due("the compiler's answer", 0, compiled);
    if (compiled != 0) {
      return List.of();
    }
    PrintStream before = System.out;
    ByteArrayOutputStream bytes = new ByteArrayOutputStream();
    try (URLClassLoader loader = new URLClassLoader(new URL[] {place.toUri().toURL()})) {
      System.setOut(new PrintStream(bytes, true, StandardCharsets.UTF_8));
      loader.loadClass("Example").getMethod("main", String[].class).invoke(null, (Object) new String[0]);
    } finally {
      System.setOut(before);
      remove(place);
    }
    return bytes.toString(StandardCharsets.UTF_8).lines().toList();
  }

  private static void remove(Path place) throws IOException {
    try (var files = Files.list(place)) {
      for (Path file : files.toList()) {
        Files.delete(file);
      }
    }
    Files.delete(place);
  }
}
