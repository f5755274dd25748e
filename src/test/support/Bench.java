import java.lang.reflect.InvocationTargetException;
import java.lang.reflect.Method;
import java.lang.reflect.Modifier;
import java.util.ArrayList;
import java.util.HashMap;
import java.util.List;
import java.util.Map;
import java.util.TreeSet;

/**
 * A garden that is called by written calls, such as "term(0, 1, 2, -3)", so that they can be made once more on a new
 * object: a refused call is tried beside a twin that never had it, and both must answer alike from then on.
 */
final class Bench {
  /** What an object answers behind so many calls is free. */
  static final int MOST_CALLS = 512;
  private static final Map<String, Method> FACE = face();

  private final MaxGarden garden = new MaxGarden();
  private int calls;
  private final List<String> answered = new ArrayList<>();
  private int polys;
  private final List<Integer> rows = new ArrayList<>();
  private int written;
  private List<String> twinAnswers;
  private int twinAge = -1;

  private static Map<String, Method> face() {
    Map<String, Method> found = new HashMap<>();
    for (Method method : MaxGarden.class.getDeclaredMethods()) {
      if (Modifier.isPublic(method.getModifiers())) {
        found.put(method.getName(), method);
      }
    }
    return found;
  }

  private static String nameOf(String call) {
    return call.substring(0, call.indexOf('('));
  }

  private static String[] argumentsOf(String call) {
    String inner = call.substring(call.indexOf('(') + 1, call.length() - 1);
    return inner.isEmpty() ? new String[0] : inner.split(", ");
  }

  private static Object valueOf(String text, Class<?> type) {
    if (type == boolean.class) {
      return Boolean.valueOf(text);
    }
    if (type == char.class) {
      return text.charAt(0) == '\'' ? text.charAt(1) : (char) Integer.parseInt(text);
    }
    return Integer.valueOf(text);
  }

  /** The answer of a call, or the exception's class. */
  private static Object perform(MaxGarden garden, String call) {
    Method method = FACE.get(nameOf(call));
    String[] texts = argumentsOf(call);
    Object[] values = new Object[texts.length];
    for (int k = 0; k < values.length; k++) {
      values[k] = valueOf(texts[k], method.getParameterTypes()[k]);
    }
    try {
      return method.invoke(garden, values);
    } catch (InvocationTargetException e) {
      return e.getCause().getClass();
    } catch (IllegalAccessException e) {
      throw new AssertionError(e);
    }
  }

  private static Class<?> classOf(String exception) {
    try {
      return Class.forName((exception.equals(Edges.MISSING) ? "java.util." : "java.lang.") + exception);
    } catch (ClassNotFoundException e) {
      throw new AssertionError(e);
    }
  }

  private Object perform(String call) {
    calls++;
    if (calls > MOST_CALLS) {
      Edges.check(false, "the test itself takes more than 512 calls, at " + call);
    }
    return perform(garden, call);
  }

  private void remember(String call, Object answer) {
    answered.add(call);
    switch (nameOf(call)) {
      case "poly", "sum", "product" -> polys++;
      case "matrix" -> rows.add(Integer.valueOf(argumentsOf(call)[0]));
      case "plus", "times", "star" -> rows.add(rows.get(Integer.parseInt(argumentsOf(call)[0])));
      case "write" -> written = (Integer) answer;
      default -> { }
    }
  }

  /** Calls that only lead up to a check; they must answer, whatever it is. */
  Bench make(String... all) {
    for (String call : all) {
      Object answer = perform(call);
      if (answer instanceof Class) {
        Edges.check(false, call + " threw " + answer);
      } else {
        remember(call, answer);
      }
    }
    return this;
  }

  Bench makeTimes(int times, String call) {
    for (int k = 0; k < times; k++) {
      make(call);
    }
    return this;
  }

  /** A new polynomial of terms such as "0 1 -5": powers of x and of y, and the coefficient. */
  Bench poly(String... terms) {
    int number = polys;
    make("poly()");
    for (String term : terms) {
      make("term(" + number + ", " + term.replace(" ", ", ") + ")");
    }
    return this;
  }

  /** A new matrix of rows such as "1 . -3", with a point for nothing. */
  Bench matrix(String... lines) {
    int number = rows.size();
    make("matrix(" + lines.length + ")");
    for (int row = 0; row < lines.length; row++) {
      String[] entries = lines[row].split(" ");
      for (int column = 0; column < entries.length; column++) {
        if (!entries[column].equals(".")) {
          make("set(" + number + ", " + row + ", " + column + ", " + entries[column] + ")");
        }
      }
    }
    return this;
  }

  Bench due(Object want, String call) {
    Object got = perform(call);
    Edges.check(want.equals(got), call + " answered " + got + ", due is " + want + " behind " + answered);
    if (!(got instanceof Class)) {
      remember(call, got);
    }
    return this;
  }

  /** Likewise for each of some numbers at the place @. */
  Bench dueAt(Object want, String pattern, int... numbers) {
    for (int number : numbers) {
      due(want, pattern.replace("@", "" + number));
    }
    return this;
  }

  /** The answers of a call at the place @ from 0 on, one by one. */
  Bench dueAll(String pattern, Object... wants) {
    for (int k = 0; k < wants.length; k++) {
      due(wants[k], pattern.replace("@", "" + k));
    }
    return this;
  }

  Bench answers(String pattern, int... numbers) {
    for (int number : numbers) {
      String call = pattern.replace("@", "" + number);
      Object got = perform(call);
      Edges.check(!(got instanceof Class), call + " threw " + got);
      if (!(got instanceof Class)) {
        remember(call, got);
      }
    }
    return this;
  }

  /** All entries of a matrix, as in matrix(..), rows parted by a stroke. */
  Bench entries(int matrix, String want) {
    int size = rows.get(matrix);
    StringBuilder text = new StringBuilder();
    for (int place = 0; place < size * size; place++) {
      Object got = perform("entry(" + matrix + ", " + place / size + ", " + place % size + ")");
      text.append(place == 0 ? "" : place % size == 0 ? "|" : " ");
      text.append(got == classOf(Edges.MISSING) ? "." : got);
    }
    Edges.check(want.equals(text.toString()), "matrix " + matrix + " is " + text + ", due is " + want);
    return this;
  }

  /** All that a polynomial is written as. */
  Bench writes(int poly, String want) {
    Object length = perform("write(" + poly + ")");
    remember("write(" + poly + ")", length);
    StringBuilder text = new StringBuilder();
    for (int k = 0; k < written; k++) {
      text.append(perform("sign(" + k + ")"));
    }
    Edges.check(want.equals(text.toString()), "written is " + text + ", due is " + want);
    return this;
  }

  /** A call that must throw just this, and change nothing of what any call answers behind it. */
  Bench refused(String exception, String call) {
    Object got = perform(call);
    Edges.check(got == classOf(exception), call + " answered " + got + ", due is " + exception + " behind " + answered);
    if (twinAge != answered.size()) {
      twinAnswers = portrait(null);
      twinAge = answered.size();
    }
    List<String> changed = portrait(call);
    for (int k = 0; k < changed.size(); k++) {
      if (!changed.get(k).equals(twinAnswers.get(k))) {
        Edges.check(false, call + " changed " + twinAnswers.get(k) + " to " + changed.get(k));
        return this;
      }
    }
    return this;
  }

  /** For long rows of calls, of which only the exception is looked at. */
  Bench onlyThrows(String exception, String call) {
    Object got = perform(call);
    Edges.check(got == classOf(exception), call + " answered " + got + ", due is " + exception + " behind " + answered);
    return this;
  }

  Bench refused(String exception, String pattern, int... numbers) {
    for (int number : numbers) {
      refused(exception, pattern.replace("@", "" + number));
    }
    return this;
  }

  /** The numbers beside a range, those that are in it again once they are cut short, and the farthest of an int. */
  Bench outside(String exception, String pattern, int low, int high) {
    TreeSet<Integer> numbers = new TreeSet<>(List.of(low - 1, high + 1, Integer.MIN_VALUE, Integer.MIN_VALUE + 1,
        Integer.MAX_VALUE - 1, Integer.MAX_VALUE, low + 256, low + 65536, low - 65536, low + (1 << 24)));
    numbers.removeIf(number -> number >= low && number <= high);
    for (int number : numbers) {
      refused(exception, pattern.replace("@", "" + number));
    }
    return this;
  }

  /** What a new object with the same calls, and perhaps a refused one, answers; over as many objects as it takes. */
  private List<String> portrait(String refusedCall) {
    List<String> found = new ArrayList<>();
    List<String> probes = probes();
    int room = MOST_CALLS - answered.size() - 1;
    for (int from = 0; from < probes.size() && room > 0; from += room) {
      answerAll(found, refusedCall, probes.subList(from, Math.min(from + room, probes.size())));
    }
    List<String> next = sequel();
    answerAll(found, refusedCall, next.subList(0, Math.max(0, Math.min(room, next.size()))));
    return found;
  }

  private void answerAll(List<String> found, String refusedCall, List<String> probes) {
    MaxGarden twin = new MaxGarden();
    for (String call : answered) {
      perform(twin, call);
    }
    if (refusedCall != null) {
      perform(twin, refusedCall);
    }
    for (String call : probes) {
      found.add(call + " = " + perform(twin, call));
    }
  }

  /** Calls that only look, at all that there is and beyond it. */
  private List<String> probes() {
    List<String> list = new ArrayList<>(List.of("print()", "isSound()"));
    for (int event = 0; event <= 6; event++) {
      list.add("time(" + event + ")");
      list.add("late(" + event + ")");
    }
    for (int index = 0; index <= written; index += index < 30 || index >= written - 3 ? 1 : written / 20 + 1) {
      list.add("sign(" + index + ")");
    }
    for (int poly = 0; poly <= polys; poly++) {
      addPolyProbes(list, poly);
    }
    for (int matrix = 0; matrix <= rows.size(); matrix++) {
      addMatrixProbes(list, matrix, matrix < rows.size() ? rows.get(matrix) : 1);
    }
    return list;
  }

  private static void addPolyProbes(List<String> list, int poly) {
    for (String name : new String[] {"terms", "needed", "roots", "turnsAnew", "corners", "genus", "area"}) {
      list.add(name + "(" + poly + ")");
    }
    for (int cell = 0; cell < 81; cell++) {
      list.add("coefficient(" + poly + ", " + cell / 9 + ", " + cell % 9 + ")");
    }
    list.add("value(" + poly + ", 3, -2)");
    list.add("greatest(" + poly + ", 0, 0)");
    list.add("isSame(" + poly + ", 0)");
    list.add("meet(" + poly + ", 0)");
    list.add("neededShare(" + poly + ")");
  }

  private static void addMatrixProbes(List<String> list, int matrix, int size) {
    for (String name : new String[] {"critical", "assignment", "isSingular", "rank", "unlike", "meanOf"}) {
      list.add(name + "(" + matrix + ")");
    }
    for (int place = 0; place < size * size; place++) {
      list.add("entry(" + matrix + ", " + place / size + ", " + place % size + ")");
    }
    list.add("mean(" + matrix + ", true)");
    list.add("meanAnew(" + matrix + ", false)");
    list.add("eigen(" + matrix + ", 0)");
    list.add("assigned(" + matrix + ", 0)");
    list.add("isHeld(" + matrix + ", 0, 0)");
  }

  /** Calls that go on from there, so that what cannot be looked at shows, too. */
  private static List<String> sequel() {
    return List.of("sign(0)", "go(1)", "time(0)", "late(0)", "time(1)", "late(1)", "delay(0, 5)", "go(2)", "time(1)",
        "late(1)", "go(50)", "time(0)", "write(0)", "sign(0)", "sign(4)", "term(0, 7, 3, 1)", "drop(0, 7, 3)",
        "set(0, 0, 0, 1)", "clear(0, 0, 0)", "begin(0)", "go(1)", "time(0)", "poly()", "matrix(2)", "sum(0, 0)",
        "product(0, 0)", "plus(0, 0)", "times(0, 0)", "star(0)", "print()");
  }
}
