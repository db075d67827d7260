import java.lang.reflect.InvocationTargetException;
import java.lang.reflect.Method;
import java.lang.reflect.Modifier;
import java.nio.charset.StandardCharsets;
import java.util.ArrayList;
import java.util.Arrays;
import java.util.Comparator;
import java.util.List;
import java.util.Random;

/** Runs of all calls, always the same ones, on the class and on the model of it. */
public final class RandomRunsTest {
  private static final int RUNS = 700;
  private static final int CALLS = 400;
  private static final int[] EDGES = {Integer.MIN_VALUE, Integer.MIN_VALUE + 1, -100, -10, -9, -2, -1, 0,
      1, 2, 3, 4, 5, 6, 7, 8, 9, 10, 11, 19, 20, 21, 22, 31, 32, 33, 199, 200, 300, Integer.MAX_VALUE};

  private final Random random;
  private final RandomTexts texts;
  private final HopscotchCourt court = new HopscotchCourt();
  private final Model model = new Model();
  private final List<String> told = new ArrayList<>();

  private RandomRunsTest(int run) {
    random = new Random(run);
    texts = new RandomTexts(random);
  }

  public static void main(String[] args) throws ReflectiveOperationException {
    for (int run = 0; run < RUNS; run++) {
      if (!new RandomRunsTest(run).goesWell()) {
        System.out.println("in run " + run);
        System.exit(1);
      }
    }
  }

  private boolean goesWell() throws ReflectiveOperationException {
    List<Method> methods = methods();
    boolean well = loads();
    while (well && told.size() < CALLS) {
      int kind = random.nextInt(100);
      if (kind < 3) {
        well = loads();
      } else if (kind < 30) {
        well = turns();
      } else if (kind < 36) {
        well = claims();
      } else {
        well = same(methods.get(random.nextInt(methods.size())));
      }
    }
    if (!well) {
      told.forEach(System.out::println);
    }
    return well;
  }

  /** In the order of their names, for reflection promises none. */
  private static List<Method> methods() {
    List<Method> methods = new ArrayList<>();
    for (Method method : HopscotchCourt.class.getDeclaredMethods()) {
      boolean dear = method.getName().equals("bestClaim");
      if (Modifier.isPublic(method.getModifiers())) {
        methods.addAll(dear ? List.of(method) : List.of(method, method, method));
      }
    }
    methods.sort(Comparator.comparing(Method::getName));
    return methods;
  }

  private boolean loads() throws ReflectiveOperationException {
    byte[] bytes = texts.next().getBytes(StandardCharsets.ISO_8859_1);
    Method append = HopscotchCourt.class.getMethod("append", int.class, int.class, int.class, int.class, int.class);
    for (int at = 0; at < bytes.length; at += 20) {
      Object[] args = new Object[5];
      for (int k = 0; k < 5; k++) {
        int four = 0;
        for (int i = at + 4 * k; i < at + 4 * k + 4; i++) {
          four = four << 8 | (i < bytes.length ? bytes[i] & 255 : 0);
        }
        args[k] = four;
      }
      if (!same(append, args)) {
        return false;
      }
    }
    return same(HopscotchCourt.class.getMethod("load"));
  }

  private boolean turns() throws ReflectiveOperationException {
    int best = model.bestThrow(model.count(4));
    int wobble = random.nextInt(6) == 0 ? random.nextInt(12) : 0;
    Method turn = HopscotchCourt.class.getMethod("turn", int.class, int.class);
    return same(turn, Math.max(0, best / 2) + wobble, Math.max(0, best % 2));
  }

  private boolean claims() throws ReflectiveOperationException {
    int player = random.nextInt(model.count(2));
    int square = 1 + random.nextInt(model.count(1));
    return same(HopscotchCourt.class.getMethod("claim", int.class, int.class), player, square);
  }

  private boolean same(Method method) throws ReflectiveOperationException {
    Class<?>[] kinds = method.getParameterTypes();
    Object[] args = new Object[kinds.length];
    for (int k = 0; k < kinds.length; k++) {
      args[k] = kinds[k] == boolean.class ? (Object) random.nextBoolean() : (Object) argument(method.getName(), k);
    }
    return same(method, args);
  }

  private int argument(String method, int place) {
    if (method.equals("append")) {
      return random.nextInt(60) == 0 ? random.nextInt() : 0x20202020 & random.nextInt();
    }
    if (random.nextInt(12) == 0) {
      return EDGES[random.nextInt(EDGES.length)];
    }
    if (method.endsWith("Fault") && place == 1 || method.equals("turn") && place == 0) {
      return random.nextInt(120);
    }
    if (method.equals("writtenByte")) {
      return random.nextInt(60);
    }
    if (method.equals("setDrift")) {
      return random.nextInt(19) - 9;
    }
    if (method.equals("save") || method.equals("restore") || method.equals("turn")) {
      return random.nextInt(2);
    }
    boolean ofPlayer = place == 0 && !method.equals("count") && !method.equals("square")
        && !method.equals("row") && !method.equals("release");
    return ofPlayer ? random.nextInt(model.count(2)) : random.nextInt(random.nextBoolean() ? 4 : 12);
  }

  private boolean same(Method method, Object... args) throws ReflectiveOperationException {
    Method ofModel = Model.class.getMethod(method.getName(), method.getParameterTypes());
    String got = outcome(method, court, args);
    String due = outcome(ofModel, model, args);
    told.add(method.getName() + Arrays.toString(args) + " answered " + got + (got.equals(due) ? "" : ", due is " + due));
    return got.equals(due);
  }

  private static String outcome(Method method, Object object, Object[] args) throws IllegalAccessException {
    try {
      return String.valueOf(method.invoke(object, args));
    } catch (InvocationTargetException e) {
      return e.getCause().getClass().getName();
    }
  }
}
