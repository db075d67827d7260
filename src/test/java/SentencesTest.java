import java.io.IOException;
import java.lang.reflect.InvocationTargetException;
import java.lang.reflect.Method;
import java.nio.file.Files;
import java.nio.file.Path;
import java.util.ArrayList;
import java.util.Arrays;
import java.util.Comparator;
import java.util.List;
import java.util.Map;
import java.util.Set;
import java.util.TreeMap;
import java.util.regex.Matcher;
import java.util.regex.Pattern;

/**
 * Runs a test for each sentence of the document, each on its own, and looks whether each of the
 * sentences has one: a test bears the name of the section or promise under which its words stand.
 */
public final class SentencesTest {
  private static final Path DOCUMENT = Path.of("../shared/DOC.md");
  // They say no more than the sentence behind them or ahead of them.
  private static final List<String> WITHOUT_TEST = List.of("- `what`:", "Returns the number.",
      "Returns the requested number.", "Returns a number of the court.", "Returns a number of a player.",
      "Returns a number of a square.");
  private static final Class<?>[] TESTS = {
    CourtSentences.class, ThrowSentences.class, HopSentences.class, TurnSentences.class,
    TextSentences.class, ChangeSentences.class, SetupPromises.class, WayPromises.class,
    FuturePromises.class, ChangePromises.class, WritingPromises.class,
  };

  private int wrong = 0;

  public static void main(String[] args) throws IOException, IllegalAccessException {
    SentencesTest all = new SentencesTest();
    List<Method> tests = all.tests();
    for (Method test : tests) {
      all.run(test);
    }
    // Tests that were named by hand are run alone, without a look at the document.
    if (args.length == 0 && Files.isReadable(DOCUMENT)) {
      all.compareWithDocument(tests, linesOfDocument());
    }
    if (all.wrong > 0) {
      System.out.println(all.wrong + " of the sentences' tests failed");
      System.exit(1);
    }
  }

  private List<Method> tests() {
    List<Method> tests = new ArrayList<>();
    for (Class<?> of : TESTS) {
      for (Method method : of.getDeclaredMethods()) {
        if (method.isAnnotationPresent(Sentence.class)) {
          tests.add(method);
        }
      }
    }
    tests.sort(Comparator.comparing(Method::getName));
    return tests;
  }

  private void run(Method test) throws IllegalAccessException {
    Check check = new Check();
    try {
      test.invoke(null, check);
    } catch (InvocationTargetException e) {
      check.tell("the test", String.valueOf(e.getCause()), "no exception");
    }
    if (check.wrong() > 0) {
      fail(test.getName(), test.getAnnotation(Sentence.class).value());
    }
  }

  private void fail(String name, String words) {
    wrong++;
    System.out.println("FAILED " + name + ": " + words);
  }

  /** The lines by the name of their heading, such as section3 or promise12. */
  private static Map<String, List<String>> linesOfDocument() throws IOException {
    Map<String, List<String>> lines = new TreeMap<>();
    Pattern heading = Pattern.compile("## Promise (\\d+): .*|(\\d+)\\. [A-Z ]+|## (.*)");
    String name = "";
    for (String line : Files.readAllLines(DOCUMENT)) {
      Matcher found = heading.matcher(line);
      if (found.matches()) {
        name = found.group(1) != null ? "promise" + found.group(1)
            : found.group(2) != null ? "section" + found.group(2)
            : found.group(3).equals("What it is") ? "whatItIs" : found.group(3);
      } else {
        lines.computeIfAbsent(name, n -> new ArrayList<>()).add(line);
      }
    }
    return lines;
  }

  private void compareWithDocument(List<Method> tests, Map<String, List<String>> lines) {
    Map<String, List<boolean[]>> covered = new TreeMap<>();
    lines.forEach((name, all) -> {
      List<boolean[]> marks = new ArrayList<>();
      all.forEach(line -> marks.add(new boolean[line.length()]));
      covered.put(name, marks);
    });
    for (Method test : tests) {
      String words = test.getAnnotation(Sentence.class).value();
      String name = headingOf(test, lines.keySet());
      if (name.isEmpty() || !cover(lines.get(name), covered.get(name), words)) {
        fail(test.getName() + " tells words that the document does not", words);
      }
    }
    lines.forEach((name, all) -> {
      if (name.matches("(section|promise)\\d+")) {
        findSentencesWithoutTest(name, all, covered.get(name));
      }
    });
  }

  /** The longest one, for promise12 begins with promise1 too. */
  private static String headingOf(Method test, Set<String> headings) {
    String longest = "";
    for (String heading : headings) {
      if (test.getName().startsWith(heading) && heading.length() > longest.length()) {
        longest = heading;
      }
    }
    return longest;
  }

  private static boolean cover(List<String> lines, List<boolean[]> covered, String words) {
    for (int k = 0; k < lines.size(); k++) {
      int at = lines.get(k).indexOf(words);
      if (at >= 0) {
        Arrays.fill(covered.get(k), at, at + words.length(), true);
        return true;
      }
    }
    return false;
  }

  private void findSentencesWithoutTest(String name, List<String> lines, List<boolean[]> covered) {
    Pattern sentence = Pattern.compile("[^.;:]*(?:[.;:](?!\\s|$)[^.;:]*)*[.;:]?");
    for (int k = 0; k < lines.size(); k++) {
      String line = lines.get(k);
      // The lines of the face and of plain parameters promise nothing by themselves.
      if (line.startsWith("Ahead of the calls") || line.startsWith("```")
          || line.startsWith("- ") && !line.startsWith("- `what`")) {
        continue;
      }
      int from = line.matches("`[^`]*`:.*") ? line.indexOf("`:") + 2 : 0;
      Matcher found = sentence.matcher(line).region(from, line.length());
      while (found.find()) {
        String words = found.group().strip();
        boolean needsTest = !words.isEmpty() && !WITHOUT_TEST.contains(words);
        if (needsTest && !anyIn(covered.get(k), found.start(), found.end())) {
          fail(name + " has a sentence without test", words);
        }
      }
    }
  }

  private static boolean anyIn(boolean[] marks, int from, int to) {
    for (int k = from; k < to; k++) {
      if (marks[k]) {
        return true;
      }
    }
    return false;
  }
}
