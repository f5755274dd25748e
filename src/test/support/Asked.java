import java.lang.reflect.InvocationTargetException;
import java.lang.reflect.Method;
import java.lang.reflect.Modifier;
import java.util.HashMap;
import java.util.Map;

/** A garden whose calls are counted, as an object is fit for 512 alone; a call gives its answer, or what it threw. */
final class Asked {
  static final int MOST_CALLS = 512;
  private static final Map<String, Method> FACE = face();

  private final MaxGarden garden = new MaxGarden();
  private int calls;

  private static Map<String, Method> face() {
    Map<String, Method> found = new HashMap<>();
    for (Method method : MaxGarden.class.getDeclaredMethods()) {
      if (Modifier.isPublic(method.getModifiers())) {
        found.put(method.getName(), method);
      }
    }
    return found;
  }

  int calls() {
    return calls;
  }

  int left() {
    return MOST_CALLS - calls;
  }

  /** The answer, or the class of the exception. */
  Object ask(String name, Object... values) {
    calls++;
    if (calls > MOST_CALLS) {
      throw new AssertionError("the test itself takes more than 512 calls, at " + name);
    }
    try {
      return FACE.get(name).invoke(garden, values);
    } catch (InvocationTargetException e) {
      return e.getCause().getClass();
    } catch (IllegalAccessException e) {
      throw new AssertionError(e);
    }
  }

  /** Fit for calls that must answer with a number; the least of all stands for one that did not. */
  int number(String name, Object... values) {
    Object got = ask(name, values);
    Checks.due(got instanceof Integer, name + " gave " + got);
    return got instanceof Integer ? (Integer) got : Integer.MIN_VALUE;
  }

  boolean isTrue(String name, Object... values) {
    Object got = ask(name, values);
    Checks.due(got instanceof Boolean, name + " gave " + got);
    return Boolean.TRUE.equals(got);
  }

  int poly(int[][] terms) {
    int number = number("poly");
    for (int[] term : terms) {
      number("term", number, term[0], term[1], term[2]);
    }
    return number;
  }

  int matrix(Integer[][] rows) {
    int number = number("matrix", rows.length);
    for (int row = 0; row < rows.length; row++) {
      for (int column = 0; column < rows.length; column++) {
        if (rows[row][column] != null) {
          number("set", number, row, column, rows[row][column]);
        }
      }
    }
    return number;
  }
}
