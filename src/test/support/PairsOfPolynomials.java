import java.util.ArrayList;
import java.util.List;
import java.util.Map;
import java.util.TreeMap;
import java.util.TreeSet;

/** What the document tells of a polynomial in two ways: both must be the same wherever both answer. */
final class PairsOfPolynomials {
  private static final int[][] POINTS = {{0, 0}, {1, -1}, {-3, 2}, {7, 7}, {-40, 13}, {500, -999}, {-9999, 9999},
      {9999, 9999}, {-9999, -9999}, {9999, -1}};

  private PairsOfPolynomials() {
  }

  static void run() {
    List<PolySample> all = PolySample.all();
    for (PolySample sample : all) {
      Checks.at(sample.kind() + ", " + sample.name());
      areasAndRooms(sample);
      cornersAndTops(sample);
      rootsAndTurns(sample);
      neededAndShare(sample);
      sameFunction(sample);
      signsAndTerms(sample);
      soundness(sample);
    }
    sameAsOthers(all);
    meetAll(all);
    cases();
  }

  /** Each pair must have answered in both ways, or refused in both, over the polynomials that the words allow. */
  private static void cases() {
    for (String kind : new String[] {PolySample.ORDINARY, PolySample.FULL, PolySample.PRODUCT}) {
      Checks.wasMet("areas agree, " + kind);
      Checks.wasMet("rooms agree, " + kind);
    }
    for (String kind : new String[] {PolySample.NONE, PolySample.ONE, PolySample.LINE}) {
      Checks.wasMet("no corners, " + kind);
    }
    for (String kind : new String[] {PolySample.ONE, PolySample.LINE, PolySample.ORDINARY}) {
      Checks.wasMet("meetings agree, " + kind + " and " + PolySample.ORDINARY);
    }
    Checks.wasMet("meetings agree, " + PolySample.LINE + " and " + PolySample.LINE);
    Checks.wasMet("meetings agree, the product has 81 terms");
    Checks.wasMet("meetings agree, " + PolySample.FULL + " and " + PolySample.ONE);
    Checks.wasMet("no corners of the product, " + PolySample.ONE + " and " + PolySample.ONE);
    Checks.wasMet("no corners of the product, " + PolySample.LINE + " and " + PolySample.LINE);
    Checks.wasMet("no meeting, " + PolySample.NONE + " and " + PolySample.ORDINARY);
    Checks.wasMet("no meeting, " + PolySample.FULL + " and " + PolySample.FULL);
    for (int roots = 0; roots <= 8; roots++) {
      Checks.wasMet(roots + " roots");
    }
    Checks.wasMet("the same as another one");
    Checks.wasMet("unlike another one");
  }

  /** Promises 24 and 25, 23, and that corners, sides and needed terms part one polygon. */
  private static void areasAndRooms(PolySample sample) {
    Asked garden = new Asked();
    int poly = sample.make(garden);
    int area = garden.number("area", poly);
    if (sample.isOnLine()) {
      Checks.same(0, area, "area");
      for (String name : new String[] {"areaAnew", "corners", "links", "rays", "genus"}) {
        Checks.same(Checks.UNSUPPORTED, garden.ask(name, poly), name);
      }
      Checks.same(Checks.UNSUPPORTED, garden.ask("corner", poly, 0, 'a'), "corner");
      Checks.meet("no corners, " + sample.kind());
      return;
    }
    Checks.same(area, garden.ask("areaAnew", poly), "areaAnew");
    int corners = garden.number("corners", poly);
    int sides = 0;
    int areas = 0;
    for (int k = 0; k < corners; k++) {
      areas += garden.number("corner", poly, k, 'a');
      sides += garden.number("corner", poly, k, 'e');
    }
    Checks.same(area, areas, "the corners' areas");
    Checks.meet("areas agree, " + sample.kind());
    int links = garden.number("links", poly);
    int rays = garden.number("rays", poly);
    int genus = garden.number("genus", poly);
    Checks.same(links - corners + 1, genus, "genus");
    Checks.same(2 * links + rays, sides, "the sides of all corners");
    Checks.same(rays + genus, garden.ask("needed", poly), "needed, by rays and closed rooms");
    Checks.meet("rooms agree, " + sample.kind());
  }

  /** Promise 18: the number of the greatest terms at a corner, held against the terms that were told. */
  private static void cornersAndTops(PolySample sample) {
    if (sample.isOnLine()) {
      return;
    }
    Asked garden = new Asked();
    int poly = sample.make(garden);
    int corners = garden.number("corners", poly);
    Asked counting = new Asked();
    sample.make(counting);
    long beforeX = 0;
    long beforeY = 0;
    long beforeD = 0;
    for (int k = 0; k < corners; k++) {
      long x = garden.number("corner", poly, k, 'x');
      long y = garden.number("corner", poly, k, 'y');
      long d = garden.number("corner", poly, k, 'd');
      Checks.due(d > 0 && divisor(divisor(x, y), d) == 1, "corner " + k + " is not in lowest terms");
      boolean isRising = beforeX * d < x * beforeD || beforeX * d == x * beforeD && beforeY * d < y * beforeD;
      Checks.due(k == 0 || isRising, "corner " + k + " does not come behind the one before it");
      Checks.same(tops(sample.cells(), x, y, d), counting.ask("corner", poly, k, 'n'), "the greatest at corner " + k);
      Checks.due(counting.isTrue("isBalanced", poly, k), "corner " + k + " is not balanced");
      beforeX = x;
      beforeY = y;
      beforeD = d;
    }
    Checks.same(Checks.MISSING, garden.ask("corner", poly, corners, 'x'), "a corner behind the last");
    Checks.same(Checks.MISSING, garden.ask("corner", poly, -1, 'x'), "corner -1");
  }

  private static int tops(Map<Integer, Integer> cells, long x, long y, long d) {
    long best = Long.MIN_VALUE;
    int count = 0;
    for (Map.Entry<Integer, Integer> each : cells.entrySet()) {
      long height = each.getValue() * d + each.getKey() / 9 * x + each.getKey() % 9 * y;
      count = height > best ? 1 : height == best ? count + 1 : count;
      best = Math.max(best, height);
    }
    return count;
  }

  private static long divisor(long a, long b) {
    return b == 0 ? Math.abs(a) : divisor(b, a % b);
  }

  /** Promises 15 and 16, and 14 with 12. */
  private static void rootsAndTurns(PolySample sample) {
    Asked garden = new Asked();
    int poly = sample.make(garden);
    if (!sample.isOfXAlone()) {
      Checks.same(Checks.UNSUPPORTED, garden.ask("roots", poly), "roots");
      Checks.same(Checks.UNSUPPORTED, garden.ask("root", poly, 0, 't'), "root");
      Checks.same(Checks.UNSUPPORTED, garden.ask("turnsAnew", poly), "turnsAnew");
      return;
    }
    int roots = garden.number("roots", poly);
    Checks.same(garden.ask("needed", poly), roots + 1, "roots and one more");
    int turns = 0;
    long beforeN = 0;
    long beforeD = 0;
    for (int k = 0; k < roots; k++) {
      long n = garden.number("root", poly, k, 'n');
      long d = garden.number("root", poly, k, 'd');
      Checks.due(d > 0 && divisor(n, d) == 1, "root " + k + " is not in lowest terms");
      Checks.due(k == 0 || beforeN * d < n * beforeD, "root " + k + " does not rise");
      Checks.due(tops(sample.cells(), n, 0, d) > 1, "at root " + k + " there is one greatest term");
      turns += garden.number("root", poly, k, 't');
      beforeN = n;
      beforeD = d;
    }
    Checks.same(turns, garden.ask("turnsAnew", poly), "turnsAnew");
    Checks.same((sample.cells().lastKey() - sample.cells().firstKey()) / 9, turns, "the turns of all roots");
    Checks.same(Checks.MISSING, garden.ask("root", poly, roots, 't'), "a root behind the last");
    Checks.meet(roots + " roots");
  }

  /** Promise 53 with 12 and 5, and 12 with 11. */
  private static void neededAndShare(PolySample sample) {
    Asked garden = new Asked();
    int poly = sample.make(garden);
    int terms = garden.number("terms", poly);
    int needed = garden.number("needed", poly);
    Checks.same(sample.cells().size(), terms, "terms");
    Checks.same(neededOf(garden, poly, sample).size(), needed, "needed, by terms");
    Object share = garden.ask("neededShare", poly);
    if (terms == 0) {
      Checks.same(Checks.ARITHMETIC, share, "neededShare");
      Checks.same(0, needed, "needed");
    } else {
      Checks.same((float) needed / (float) terms, share, "neededShare");
    }
  }

  private static TreeSet<Integer> neededOf(Asked garden, int poly, PolySample sample) {
    TreeSet<Integer> found = new TreeSet<>();
    for (int cell = 0; cell < 81; cell++) {
      if (sample.cells().containsKey(cell)) {
        if (garden.isTrue("isNeeded", poly, cell / 9, cell % 9)) {
          found.add(cell);
        }
      } else if (cell % 7 == 0) {
        Checks.same(Checks.MISSING, garden.ask("isNeeded", poly, cell / 9, cell % 9), "isNeeded of no term");
      }
    }
    return found;
  }

  /** Promise 13 with 12 and "Needed": what is not needed can go, what is needed cannot. */
  private static void sameFunction(PolySample sample) {
    Asked garden = new Asked();
    int poly = sample.make(garden);
    TreeSet<Integer> needed = neededOf(garden, poly, sample);
    int copy = garden.number("sum", poly, poly);
    for (int cell : sample.cells().keySet()) {
      if (!needed.contains(cell)) {
        Checks.same(sample.cells().get(cell), garden.ask("drop", copy, cell / 9, cell % 9), "drop");
      }
    }
    isSameBothWays(garden, poly, copy, true);
    Checks.same(needed.size(), garden.ask("terms", copy), "terms, of the needed alone");
    Checks.same(needed.size(), garden.ask("needed", copy), "needed, of the needed alone");
    for (int[] point : POINTS) {
      Checks.same(garden.ask("value", poly, point[0], point[1]), garden.ask("value", copy, point[0], point[1]),
          "value of the needed alone");
    }
    int tried = 0;
    for (int cell : needed) {
      if (tried < 6) {
        withoutNeeded(garden, poly, copy, cell, sample.cells().get(cell));
        tried += Math.abs(sample.cells().get(cell)) <= 999 ? 1 : 6;
      }
    }
  }

  private static void withoutNeeded(Asked garden, int poly, int copy, int cell, int coefficient) {
    int i = cell / 9;
    int j = cell % 9;
    garden.number("drop", copy, i, j);
    isSameBothWays(garden, poly, copy, false);
    if (Math.abs(coefficient) > 999) {
      return;
    }
    if (coefficient > -999) {
      garden.number("term", copy, i, j, coefficient - 1);
      isSameBothWays(garden, poly, copy, false);
    }
    garden.number("term", copy, i, j, coefficient);
    isSameBothWays(garden, poly, copy, true);
    if (coefficient < 999) {
      garden.number("term", copy, i, j, coefficient + 1);
      isSameBothWays(garden, poly, copy, false);
      garden.number("drop", copy, i, j);
      garden.number("term", copy, i, j, coefficient);
    }
  }

  private static void isSameBothWays(Asked garden, int one, int other, boolean want) {
    Checks.same(want, garden.ask("isSame", one, other), "isSame");
    Checks.same(want, garden.ask("isSame", other, one), "isSame the other way");
  }

  /** Two polynomials, one of which may hold terms that are not needed beside those of the other. */
  private static void sameAsOthers(List<PolySample> all) {
    for (int k = 0; k < all.size(); k++) {
      PolySample one = all.get(k);
      for (int next = 1; next <= 2; next++) {
        PolySample other = all.get((k + next * next) % all.size());
        Checks.at(one.kind() + ", " + one.name() + ", and " + other.kind() + ", " + other.name());
        Asked garden = new Asked();
        int first = one.make(garden);
        int second = other.make(garden);
        TreeMap<Integer, Integer> left = new TreeMap<>(one.cells());
        left.keySet().retainAll(neededOf(garden, first, one));
        TreeMap<Integer, Integer> right = new TreeMap<>(other.cells());
        right.keySet().retainAll(neededOf(garden, second, other));
        isSameBothWays(garden, first, second, left.equals(right));
        Checks.meet(left.equals(right) ? "the same as another one" : "unlike another one");
      }
    }
    Checks.at("flat square, and its vertices");
    Asked garden = new Asked();
    int flat = garden.poly(all.stream().filter(each -> each.name().equals("full 0")).findFirst().get().terms());
    int vertices = garden.poly(new int[][] {{0, 0, 0}, {8, 0, 0}, {0, 8, 0}, {8, 8, 0}});
    isSameBothWays(garden, flat, vertices, true);
    Checks.meet("the same as another one");
  }

  /** Promises 50 and 51: the signs are as many as were counted, and read as the terms that were told. */
  private static void signsAndTerms(PolySample sample) {
    StringBuilder text = new StringBuilder();
    int length = 0;
    do {
      Asked garden = new Asked();
      int poly = sample.make(garden);
      length = garden.number("write", poly);
      while (text.length() < length && garden.left() > 2) {
        Object sign = garden.ask("sign", text.length());
        Checks.due(sign instanceof Character, "sign " + text.length() + " gave " + sign);
        text.append(sign instanceof Character ? sign : "?");
      }
      Checks.same(Checks.MISSING, garden.ask("sign", length), "the sign behind the last");
      Checks.same(Checks.MISSING, garden.ask("sign", -1), "sign -1");
    } while (text.length() < length);
    List<String> want = new ArrayList<>();
    for (int cell : sample.cells().descendingKeySet()) {
      want.add(sample.cells().get(cell) + "x".repeat(cell / 9) + "y".repeat(cell % 9));
    }
    Checks.same(String.join("+", want), text.toString(), "the signs");
  }

  /** Promises 55 and 52. */
  private static void soundness(PolySample sample) {
    Asked garden = new Asked();
    int poly = sample.make(garden);
    if (sample.factor() == null) {
      long print = 7;
      for (int coefficient : sample.cells().values()) {
        print = 31 * print + coefficient;
      }
      Checks.same(31 * print, garden.ask("print"), "print");
    }
    Object before = garden.ask("print");
    Checks.due(garden.isTrue("isSound"), "the garden is not sound");
    Checks.same(before, garden.ask("print"), "print behind isSound");
    Checks.same(poly + 1, garden.ask("poly"), "the next polynomial");
  }

  private static void meetAll(List<PolySample> all) {
    List<PolySample> low = new ArrayList<>();
    for (PolySample sample : all) {
      boolean isLow = topOf(sample, true) <= 4 && topOf(sample, false) <= 4;
      if (isLow && (!sample.kind().equals(PolySample.ONE) || low.size() < 12)) {
        low.add(sample);
      }
    }
    Checks.due(low.size() > 60, "too few polynomials with low powers: " + low.size());
    for (int one = 0; one < low.size(); one++) {
      for (int other = one; other < low.size(); other += 1 + other % 3) {
        meetBoth(low.get(one), low.get(other));
      }
    }
    for (int k = 0; k < all.size(); k++) {
      for (int next : new int[] {0, 1, 5, 41, 97}) {
        meetBoth(all.get(k), all.get((k + next) % all.size()));
      }
    }
    PolySample constant = new PolySample(PolySample.ONE, "constant", new int[][] {{0, 0, 999}}, null);
    for (PolySample sample : all) {
      meetBoth(sample, constant);
    }
    Draw draw = new Draw(9);
    for (int number = 0; number < 30; number++) {
      meetBoth(full(number % 9, draw), full(8 - number % 9, draw));
    }
  }

  /** All terms up to a power, so that the product of two has 81. */
  private static PolySample full(int top, Draw draw) {
    int spread = new int[] {0, 1, 9, 999}[draw.below(4)];
    int bend = draw.below(4);
    List<int[]> terms = new ArrayList<>();
    for (int i = 0; i <= top; i++) {
      for (int j = 0; j <= top; j++) {
        int coefficient = draw.between(-spread, spread) - bend * (i * i + j * j);
        terms.add(new int[] {i, j, Math.max(-999, coefficient)});
      }
    }
    String kind = top == 8 ? PolySample.FULL : top == 0 ? PolySample.ONE : PolySample.ORDINARY;
    return new PolySample(kind, "all powers to " + top, terms.toArray(new int[0][]), null);
  }

  private static int topOf(PolySample sample, boolean isX) {
    int top = 0;
    for (int cell : sample.cells().keySet()) {
      top = Math.max(top, isX ? cell / 9 : cell % 9);
    }
    return top;
  }

  /** Promises 26 and 27. */
  private static void meetBoth(PolySample one, PolySample other) {
    Checks.at(one.kind() + ", " + one.name() + ", meets " + other.kind() + ", " + other.name());
    Asked garden = new Asked();
    int first = one.make(garden);
    int second = other.make(garden);
    Object meet = garden.ask("meet", first, second);
    Object anew = garden.ask("meetAnew", first, second);
    Checks.same(meet, garden.ask("meet", second, first), "meet the other way");
    Checks.same(anew, garden.ask("meetAnew", second, first), "meetAnew the other way");
    String kinds = one.kind() + " and " + other.kind();
    if (one.cells().isEmpty() || other.cells().isEmpty() || topOf(one, true) + topOf(other, true) > 8
        || topOf(one, false) + topOf(other, false) > 8) {
      Checks.same(Checks.UNSUPPORTED, meet, "meet");
      Checks.same(Checks.UNSUPPORTED, anew, "meetAnew");
      Checks.meet("no meeting, " + kinds);
      return;
    }
    int product = garden.number("product", first, second);
    int twice = garden.number("area", product) - garden.number("area", first) - garden.number("area", second);
    Checks.due(twice >= 0 && twice % 2 == 0, "the areas leave " + twice);
    Checks.same(twice / 2, meet, "meet");
    if (one == other) {
      Checks.same(garden.ask("area", first), meet, "meet with itself");
    }
    if (garden.ask("corners", product) == Checks.UNSUPPORTED) {
      Checks.same(0, meet, "meet on one line");
      Checks.same(Checks.UNSUPPORTED, anew, "meetAnew on one line");
      Checks.meet("no corners of the product, " + kinds);
    } else {
      Checks.same(meet, anew, "meetAnew");
      Checks.meet("meetings agree, " + kinds);
      if (garden.number("terms", product) == 81 && one.cells().size() > 1 && other.cells().size() > 1) {
        Checks.meet("meetings agree, the product has 81 terms");
      }
    }
  }
}
