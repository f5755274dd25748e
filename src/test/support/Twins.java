import java.lang.reflect.InvocationTargetException;
import java.lang.reflect.Method;
import java.lang.reflect.Modifier;
import java.util.Arrays;
import java.util.HashMap;
import java.util.Map;

/** A garden and the model of it, which get the same calls; what they answer must be the same. */
final class Twins {
  /** What an object answers behind so many calls is free. */
  static final int MOST_CALLS = 512;
  private static final String DUE = "java\\.(lang|util)\\.(IllegalState|IllegalArgument|IndexOutOfBounds|Arithmetic"
      + "|UnsupportedOperation|NoSuchElement)Exception";
  private static final Map<String, Method> FACE = methods(MaxGarden.class);
  private static final Map<String, Method> MODEL = methods(Model.class);

  final Model model = new Model();
  private final MaxGarden garden = new MaxGarden();
  private final String name;
  /** How often each call has answered or thrown, over all runs. */
  private final Map<String, Integer> seen;
  private final StringBuilder history = new StringBuilder();
  private int calls;
  private int wrong;

  Twins(String name, Map<String, Integer> seen) {
    this.name = name;
    this.seen = seen;
  }

  private static Map<String, Method> methods(Class<?> owner) {
    Map<String, Method> found = new HashMap<>();
    for (Method method : owner.getDeclaredMethods()) {
      if (!Modifier.isPrivate(method.getModifiers()) && !method.isSynthetic()) {
        method.setAccessible(true);
        found.put(method.getName(), method);
      }
    }
    return found;
  }

  int calls() {
    return calls;
  }

  int wrong() {
    return wrong;
  }

  /** Makes the call on both; the answer that is due, or throws. and the exception's name. */
  String both(String call, Object... values) {
    calls++;
    if (calls > MOST_CALLS) {
      throw new AssertionError("the test itself takes more than 512 calls, at " + call);
    }
    String got = answer(garden, FACE.get(call), values, false);
    String want = answer(model, MODEL.get(call), values, true);
    history.append(call).append(Arrays.toString(values)).append(" -> ").append(want).append('\n');
    if (!got.equals(want)) {
      wrong++;
      System.out.println(name + ": " + call + Arrays.toString(values) + " answered " + got + ", due is " + want);
      if (wrong == 1) {
        System.out.println(history);
      }
    }
    seen.merge(call + (want.startsWith("throws.") ? " " + want : " answers"), 1, Integer::sum);
    return want;
  }

  private static String answer(Object owner, Method method, Object[] values, boolean isModel) {
    try {
      return "" + method.invoke(owner, values);
    } catch (InvocationTargetException e) {
      if (isModel && !e.getCause().getClass().getName().matches(DUE)) {
        throw new AssertionError("the model itself threw", e.getCause());
      }
      return "throws." + e.getCause().getClass().getSimpleName();
    } catch (IllegalAccessException e) {
      throw new AssertionError(e);
    }
  }

  /** A call that never answered, or an exception that was never due, would make the runs prove less than they seem to. */
  static int unseenKinds(Map<String, Integer> seen) {
    int missing = 0;
    for (Method method : MaxGarden.class.getDeclaredMethods()) {
      if (!Modifier.isPublic(method.getModifiers())) {
        continue;
      }
      if (!seen.containsKey(method.getName() + " answers")) {
        System.out.println("never answered: " + method.getName());
        missing++;
      }
      for (Class<?> thrown : method.getExceptionTypes()) {
        if (!seen.containsKey(method.getName() + " throws." + thrown.getSimpleName())) {
          System.out.println("never thrown: " + method.getName() + " " + thrown.getSimpleName());
          missing++;
        }
      }
    }
    return missing;
  }
}
