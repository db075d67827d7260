import java.io.IOException;
import java.lang.reflect.Constructor;
import java.lang.reflect.Field;
import java.lang.reflect.Method;
import java.lang.reflect.Modifier;
import java.nio.file.Files;
import java.nio.file.Path;
import java.util.ArrayList;
import java.util.Arrays;
import java.util.List;
import java.util.Map;
import java.util.TreeMap;
import java.util.TreeSet;
import java.util.regex.Matcher;
import java.util.regex.Pattern;

/** Rules of LANGUAGE.md that can be seen in the text of the class, or by looking at it. */
public final class LanguageTest {
  private static final Check check = new Check();
  private static final String FACE = "append(int, int, int, int, int) IllegalStateException;"
      + "load();errorPosition();count(int) IllegalArgumentException;"
      + "player(int, int) IndexOutOfBoundsException IllegalArgumentException;"
      + "square(int, int) IndexOutOfBoundsException IllegalArgumentException;"
      + "row(int) IndexOutOfBoundsException;footing(int, int) IndexOutOfBoundsException;"
      + "throwFault(int, int, int) IndexOutOfBoundsException IllegalArgumentException;"
      + "bestThrow(int) IndexOutOfBoundsException;hopFault(int) IndexOutOfBoundsException;"
      + "cost(int, boolean) IndexOutOfBoundsException;place(int, boolean, int) IndexOutOfBoundsException;"
      + "leastReach(int) IndexOutOfBoundsException;playable(int) IndexOutOfBoundsException;"
      + "bestClaim(int) IndexOutOfBoundsException;turnsToCrown(int) IndexOutOfBoundsException;"
      + "firstThrough();meanCost();success();turn(int, int) IllegalArgumentException;pass();"
      + "claim(int, int) IndexOutOfBoundsException;release(int) IndexOutOfBoundsException;"
      + "setDrift(int) IllegalArgumentException;"
      + "setPlayer(int, int, int) IndexOutOfBoundsException IllegalArgumentException;"
      + "mark(int, int) IndexOutOfBoundsException;undo() IllegalStateException;"
      + "save(int) IndexOutOfBoundsException;restore(int) IndexOutOfBoundsException IllegalStateException;"
      + "writeCourt();writtenByte(int) IndexOutOfBoundsException";

  public static void main(String[] args) throws IOException, ReflectiveOperationException {
    String text = Files.readString(Path.of("src/main/java/HopscotchCourt.java"));
    theFaceIsThatOfTheDocument();
    theConstantsAreThoseOfTheDocument();
    classesInsideArePrivateAndStatic();
    nothingForbiddenIsWritten(withoutComments(text));
    objectsAreMadeInConstructors(withoutComments(text));
    methodsAreShort(text);
    callsAreAtMostEightDeep(withoutComments(text));
    check.end();
  }

  private static void due(String what, boolean holds) {
    check.due(what, holds ? 1 : 0, 1);
  }

  private static void theFaceIsThatOfTheDocument() {
    TreeSet<String> got = new TreeSet<>();
    TreeSet<String> names = new TreeSet<>();
    for (Method method : HopscotchCourt.class.getDeclaredMethods()) {
      if (!Modifier.isPrivate(method.getModifiers()) && !method.isSynthetic()) {
        StringBuilder line = new StringBuilder(method.getName());
        line.append(Arrays.toString(method.getParameterTypes()).replace('[', '(').replace(']', ')'));
        for (Class<?> thrown : method.getExceptionTypes()) {
          line.append(' ').append(thrown.getSimpleName());
        }
        got.add(line.toString());
        names.add(method.getName());
        due("public " + line, Modifier.isPublic(method.getModifiers()));
      }
    }
    check.dueText("the face", got.toString(), new TreeSet<>(Arrays.asList(FACE.split(";"))).toString());
    for (Class<?> inside : HopscotchCourt.class.getDeclaredClasses()) {
      for (Method method : inside.getDeclaredMethods()) {
        due("a name of the face inside: " + method.getName(), !names.contains(method.getName()));
        due("at most seven parameters: " + method.getName(), method.getParameterCount() <= 7);
      }
    }
    due("a final class", Modifier.isFinal(HopscotchCourt.class.getModifiers()));
    check.due("constructors", HopscotchCourt.class.getDeclaredConstructors().length, 1);
    Constructor<?> constructor = HopscotchCourt.class.getDeclaredConstructors()[0];
    due("a public one", Modifier.isPublic(constructor.getModifiers()));
    check.due("without parameters", constructor.getParameterCount(), 0);
  }

  private static void theConstantsAreThoseOfTheDocument() throws ReflectiveOperationException {
    List<String> got = new ArrayList<>();
    for (Field field : HopscotchCourt.class.getDeclaredFields()) {
      if (!Modifier.isPrivate(field.getModifiers())) {
        due("public " + field.getName(), Modifier.isPublic(field.getModifiers()));
        got.add(field.getName() + " " + field.getInt(null));
      }
      staticFieldsAreFinal(field);
    }
    check.dueText("constants", got.toString(),
        "[NONE -1, START -100, SYNTAX_ERROR -2, VALUE_ERROR -3, TWICE -4, TOO_MANY -5]");
  }

  private static void staticFieldsAreFinal(Field field) {
    if (Modifier.isStatic(field.getModifiers())) {
      due("a final " + field.getName(), Modifier.isFinal(field.getModifiers()));
    }
  }

  private static void classesInsideArePrivateAndStatic() {
    Class<?>[] classes = HopscotchCourt.class.getDeclaredClasses();
    due("at most twelve classes", classes.length < 12);
    for (Class<?> inside : classes) {
      due("private " + inside, Modifier.isPrivate(inside.getModifiers()));
      due("static " + inside, Modifier.isStatic(inside.getModifiers()));
      int fields = 0;
      for (Field field : inside.getDeclaredFields()) {
        staticFieldsAreFinal(field);
        fields += Modifier.isStatic(field.getModifiers()) ? 0 : 1;
      }
      due("at most twenty fields in " + inside, fields <= 20);
    }
  }

  private static String withoutComments(String text) {
    return text.replaceAll("(?s)/\\*.*?\\*/", "").replaceAll("//[^\n]*", "");
  }

  private static void nothingForbiddenIsWritten(String text) {
    String[] forbidden = {"\\bimport\\b", "\\bpackage\\b", "->", "::", "\\btry\\b", "\\bcatch\\b",
        "\\bfinally\\b", "\\bsynchronized\\b", "\\bassert\\b", "\\bSystem\\.(?!arraycopy)",
        "\\bThread\\b", "\\bObject\\b", "\\bstatic \\{", "Exact\\(", "\" \\+", "\\+ \""};
    for (String pattern : forbidden) {
      Matcher found = Pattern.compile(pattern).matcher(text);
      check.dueText("forbidden " + pattern, found.find() ? found.group() : "", "");
    }
    Matcher thrown = Pattern.compile("\\bthrow\\b[^;]*;").matcher(text);
    while (thrown.find()) {
      due("a throw of the document's: " + thrown.group(), thrown.group().matches(
          "throw new (IllegalState|IllegalArgument|IndexOutOfBounds)Exception\\(\"[a-z ]*\"\\);"));
    }
  }

  /** So that a run makes no more objects than its courts hold from the first. */
  private static void objectsAreMadeInConstructors(String text) {
    String method = "";
    for (String line : text.split("\n")) {
      if (line.matches(" {2}( {2})?(public|private) .*\\{")) {
        method = line.strip();
      }
      boolean makes = line.contains("new ") && !line.contains("throw new ");
      boolean isField = line.matches(" +private final .*;");
      due("made in a call: " + line, !makes || isField || method.matches("(public|private) [A-Z]\\w*\\(.*"));
    }
  }

  private static void methodsAreShort(String text) {
    int begun = 0;
    String[] lines = text.split("\n");
    for (int k = 0; k < lines.length; k++) {
      if (lines[k].matches(" {2}( {2})?(public|private) .*[({]") && !lines[k].contains(" class ")) {
        begun = k;
      }
      if (lines[k].matches(" {2}( {2})?\\}")) {
        due("a short method: " + lines[begun].strip(), k - begun < 60);
      }
      due("a line of at most 100 signs: " + (k + 1), lines[k].length() <= 100);
    }
  }

  /** The library's calls count too; calls without an end (a recursion) are more than eight deep. */
  private static void callsAreAtMostEightDeep(String text) {
    Map<String, TreeSet<String>> calls = new TreeMap<>();
    String method = "";
    for (String line : text.split("\n")) {
      Matcher head = Pattern.compile(" {2}( {2})?(public|private) .*?(\\w+)\\(.*").matcher(line);
      if (head.matches()) {
        method = head.group(3);
        calls.computeIfAbsent(method, name -> new TreeSet<>());
      } else {
        Matcher call = Pattern.compile("(?<!new )\\b(\\w+)\\(").matcher(line);
        while (call.find() && !method.isEmpty()) {
          calls.get(method).add(call.group(1));
        }
      }
    }
    for (String name : calls.keySet()) {
      check.due("calls more than eight deep from " + name, deepest(calls, name, 1) > 8 ? 1 : 0, 0);
    }
  }

  private static int deepest(Map<String, TreeSet<String>> calls, String name, int depth) {
    int deepest = depth;
    if (depth <= 8 && calls.containsKey(name)) {
      for (String called : calls.get(name)) {
        deepest = Math.max(deepest, deepest(calls, called, depth + 1));
      }
    }
    return deepest;
  }
}
