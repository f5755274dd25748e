import java.util.Map;
import java.util.NoSuchElementException;
import java.util.TreeMap;

/** What the tests of pairs and of long runs share: where they are, what was wrong, and which cases have come up. */
final class Checks {
  static final Class<?> INDEX = IndexOutOfBoundsException.class;
  static final Class<?> ARGUMENT = IllegalArgumentException.class;
  static final Class<?> STATE = IllegalStateException.class;
  static final Class<?> UNSUPPORTED = UnsupportedOperationException.class;
  static final Class<?> MISSING = NoSuchElementException.class;
  static final Class<?> ARITHMETIC = ArithmeticException.class;

  private static String place = "";
  private static int checks;
  private static int wrong;
  private static final Map<String, Integer> seen = new TreeMap<>();

  private Checks() {
  }

  static void at(String where) {
    place = where;
  }

  static void due(boolean isDue, String what) {
    checks++;
    if (!isDue) {
      wrong++;
      if (wrong <= 60) {
        System.out.println(place + ": " + what);
      }
    }
  }

  static void same(Object want, Object got, String what) {
    due(want.equals(got), what + " gave " + got + ", due is " + want);
  }

  /** Counts a case that a test wants to have met. */
  static void meet(String what) {
    seen.merge(what, 1, Integer::sum);
  }

  /** A case that never came up would make a test prove less than it seems to. */
  static void wasMet(String what) {
    at("cases");
    due(seen.containsKey(what), "never met: " + what);
  }

  static void finish(String name) {
    System.out.println(name + ": " + checks + " checks, " + wrong + " wrong");
    if (wrong != 0) {
      System.exit(1);
    }
  }
}
