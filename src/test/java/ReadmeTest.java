import java.io.ByteArrayOutputStream;
import java.io.IOException;
import java.io.PrintStream;
import java.lang.reflect.Method;
import java.nio.file.Files;
import java.nio.file.Path;
import java.util.ArrayList;
import java.util.List;
import java.util.TreeSet;
import java.util.stream.Stream;

/** What README.md says: its example, its table of calls, and its table of tests. */
public final class ReadmeTest {
  private static final Path README = Path.of("README.md");
  private static final Path TESTS = Path.of("src/test/java");
  private static final Check check = new Check();

  public static void main(String[] args) throws IOException {
    String readme = Files.readString(README);
    String example = Files.readString(TESTS.resolve("CourtExample.java"));
    check.due("the example stands in it", readme.contains("```java\n" + example + "```") ? 1 : 0, 1);
    check.dueText("the example prints", printed(), told(example));
    int text = readme.indexOf("```text\n") + "```text\n".length();
    check.dueLoad(readme.substring(text, readme.indexOf("\n```", text)), 4);
    everyCallIsNamed(readme);
    everyTestIsNamed(readme);
    check.end();
  }

  private static String printed() {
    PrintStream before = System.out;
    ByteArrayOutputStream bytes = new ByteArrayOutputStream();
    System.setOut(new PrintStream(bytes, true));
    try {
      CourtExample.main(new String[0]);
    } finally {
      System.setOut(before);
    }
    return bytes.toString().lines().toList().toString();
  }

  private static String told(String example) {
    List<String> told = new ArrayList<>();
    for (String line : example.split("\n")) {
      if (line.contains("System.out.println(")) {
        told.add(line.substring(line.indexOf("//") + 2).strip());
      }
    }
    return told.toString();
  }

  private static void everyCallIsNamed(String readme) {
    for (Method method : HopscotchCourt.class.getMethods()) {
      if (method.getDeclaringClass() == HopscotchCourt.class) {
        check.due("named: " + method.getName(), readme.contains("`" + method.getName() + "(") ? 1 : 0, 1);
      }
    }
  }

  private static void everyTestIsNamed(String readme) throws IOException {
    TreeSet<String> tests = new TreeSet<>();
    try (Stream<Path> files = Files.list(TESTS)) {
      files.forEach(file -> tests.add(file.getFileName().toString()));
    }
    for (String file : tests) {
      if (file.endsWith("Test.java")) {
        String name = file.substring(0, file.length() - ".java".length());
        check.due("named: " + name, readme.contains("| `" + name + "` |") ? 1 : 0, 1);
      }
    }
  }
}
