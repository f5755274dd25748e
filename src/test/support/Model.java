import java.util.ArrayList;
import java.util.Arrays;
import java.util.Collection;
import java.util.Collections;
import java.util.HashMap;
import java.util.HashSet;
import java.util.List;
import java.util.Map;
import java.util.NoSuchElementException;
import java.util.Objects;
import java.util.Set;
import java.util.TreeMap;

/** The document, word by word, with no thought of speed but for keeping what was found for the same polynomial. */
final class Model {
  private static final int MOST_KEPT = 4000;
  private static final Map<TreeMap<Integer, Long>, TreeMap<Integer, Long>> neededBefore = new HashMap<>();
  private static final Map<TreeMap<Integer, Long>, List<long[]>> cornersBefore = new HashMap<>();

  final List<TreeMap<Integer, Long>> polys = new ArrayList<>();
  final List<Long[][]> matrices = new ArrayList<>();
  int begun;
  private String written = "";
  private Long[][] table;
  private long[] times;
  private long[] punctual;

  // ---- polynomials: keys are 9 times the power of x, plus that of y

  int poly() {
    if (polys.size() == 10) {
      throw new IllegalStateException();
    }
    polys.add(new TreeMap<>());
    return polys.size() - 1;
  }

  private TreeMap<Integer, Long> at(int poly) {
    if (poly < 0 || poly >= polys.size()) {
      throw new IndexOutOfBoundsException();
    }
    return polys.get(poly);
  }

  int term(int poly, int i, int j, int coefficient) {
    TreeMap<Integer, Long> p = at(poly);
    if (i < 0 || i > 8 || j < 0 || j > 8 || coefficient < -999 || coefficient > 999) {
      throw new IllegalArgumentException();
    }
    p.merge(9 * i + j, (long) coefficient, Math::max);
    return p.size();
  }

  private static int key(TreeMap<Integer, Long> p, int i, int j) {
    for (int key : p.keySet()) {
      if (key / 9 == i && key % 9 == j) {
        return key;
      }
    }
    throw new NoSuchElementException();
  }

  long drop(int poly, int i, int j) {
    TreeMap<Integer, Long> p = at(poly);
    return p.remove(key(p, i, j));
  }

  int terms(int poly) {
    return at(poly).size();
  }

  long coefficient(int poly, int i, int j) {
    TreeMap<Integer, Long> p = at(poly);
    return p.get(key(p, i, j));
  }

  private static List<Integer> tops(TreeMap<Integer, Long> p, long x, long y, long d) {
    List<Integer> found = new ArrayList<>();
    long best = 0;
    for (int key : p.keySet()) {
      long value = p.get(key) * d + key / 9 * x + key % 9 * y;
      if (found.isEmpty() || value > best) {
        found.clear();
        best = value;
      }
      if (value == best) {
        found.add(key);
      }
    }
    return found;
  }

  private static void checkPoint(int x, int y) {
    if (x < -9999 || x > 9999 || y < -9999 || y > 9999) {
      throw new IllegalArgumentException();
    }
  }

  long value(int poly, int x, int y) {
    TreeMap<Integer, Long> p = at(poly);
    checkPoint(x, y);
    if (p.isEmpty()) {
      throw new NoSuchElementException();
    }
    int top = tops(p, x, y, 1).get(0);
    return p.get(top) + top / 9 * x + top % 9 * y;
  }

  int greatest(int poly, int x, int y) {
    TreeMap<Integer, Long> p = at(poly);
    checkPoint(x, y);
    return tops(p, x, y, 1).size();
  }

  int sum(int one, int other) {
    TreeMap<Integer, Long> p = at(one);
    TreeMap<Integer, Long> q = at(other);
    if (polys.size() == 10) {
      throw new IllegalStateException();
    }
    TreeMap<Integer, Long> made = new TreeMap<>(p);
    q.forEach((key, c) -> made.merge(key, c, Math::max));
    polys.add(made);
    return polys.size() - 1;
  }

  private static TreeMap<Integer, Long> productOf(TreeMap<Integer, Long> p, TreeMap<Integer, Long> q) {
    TreeMap<Integer, Long> made = new TreeMap<>();
    for (int a : p.keySet()) {
      for (int b : q.keySet()) {
        if (a / 9 + b / 9 > 8 || a % 9 + b % 9 > 8) {
          throw new UnsupportedOperationException();
        }
        made.merge(a + b, p.get(a) + q.get(b), Math::max);
      }
    }
    return made;
  }

  int product(int one, int other) {
    TreeMap<Integer, Long> p = at(one);
    TreeMap<Integer, Long> q = at(other);
    if (polys.size() == 10) {
      throw new IllegalStateException();
    }
    polys.add(productOf(p, q));
    return polys.size() - 1;
  }

  private static long cross(int a, int b, int c) {
    return (long) (b / 9 - a / 9) * (c % 9 - a % 9) - (long) (b % 9 - a % 9) * (c / 9 - a / 9);
  }

  private static boolean isBetween(int a, int b, int c) {
    return cross(a, b, c) == 0 && (long) (a / 9 - c / 9) * (b / 9 - c / 9) <= 0
        && (long) (a % 9 - c % 9) * (b % 9 - c % 9) <= 0;
  }

  private static boolean isUnderSegment(TreeMap<Integer, Long> p, int key, int a, int b) {
    if (!isBetween(a, b, key)) {
      return false;
    }
    long whole = Math.abs(b / 9 - a / 9) + Math.abs(b % 9 - a % 9);
    long part = Math.abs(key / 9 - a / 9) + Math.abs(key % 9 - a % 9);
    return p.get(key) * whole <= p.get(a) * (whole - part) + p.get(b) * part;
  }

  private static boolean isUnderTriangle(TreeMap<Integer, Long> p, int key, int a, int b, int c) {
    long whole = cross(a, b, c);
    long sign = whole > 0 ? 1 : -1;
    long forC = cross(a, b, key) * sign;
    if (whole == 0 || forC < 0) {
      return false;
    }
    long forA = cross(b, c, key) * sign;
    long forB = cross(c, a, key) * sign;
    return forA >= 0 && forB >= 0
        && p.get(key) * whole * sign <= p.get(a) * forA + p.get(b) * forB + p.get(c) * forC;
  }

  private static boolean isNeededIn(TreeMap<Integer, Long> p, int key) {
    List<Integer> others = new ArrayList<>(p.keySet());
    others.remove((Integer) key);
    for (int a = 0; a < others.size(); a++) {
      for (int b = a + 1; b < others.size(); b++) {
        if (isUnderSegment(p, key, others.get(a), others.get(b))) {
          return false;
        }
        for (int c = b + 1; c < others.size(); c++) {
          if (isUnderTriangle(p, key, others.get(a), others.get(b), others.get(c))) {
            return false;
          }
        }
      }
    }
    return true;
  }

  private static TreeMap<Integer, Long> neededOf(TreeMap<Integer, Long> p) {
    TreeMap<Integer, Long> found = neededBefore.get(p);
    if (found != null) {
      return found;
    }
    found = new TreeMap<>();
    for (int key : p.keySet()) {
      if (isNeededIn(p, key)) {
        found.put(key, p.get(key));
      }
    }
    keep(neededBefore, p, found);
    return found;
  }

  private static <T> void keep(Map<TreeMap<Integer, Long>, T> before, TreeMap<Integer, Long> p, T found) {
    if (before.size() >= MOST_KEPT) {
      before.clear();
    }
    before.put(new TreeMap<>(p), found);
  }

  boolean isNeeded(int poly, int i, int j) {
    TreeMap<Integer, Long> p = at(poly);
    return neededOf(p).containsKey(key(p, i, j));
  }

  int needed(int poly) {
    return neededOf(at(poly)).size();
  }

  boolean isSame(int one, int other) {
    TreeMap<Integer, Long> p = at(one);
    return neededOf(p).equals(neededOf(at(other)));
  }

  // ---- roots

  private static long gcd(long a, long b) {
    return b == 0 ? Math.abs(a) : gcd(b, a % b);
  }

  /** Rows of the upper number, the lower one and the turns. */
  private List<long[]> rootsOf(int poly) {
    TreeMap<Integer, Long> p = at(poly);
    if (p.isEmpty() || p.keySet().stream().anyMatch(key -> key % 9 > 0)) {
      throw new UnsupportedOperationException();
    }
    List<long[]> found = new ArrayList<>();
    int before = -1;
    TreeMap<Integer, Long> left = neededOf(p);
    for (int key : left.keySet()) {
      if (before >= 0) {
        long n = left.get(before) - left.get(key);
        long t = (key - before) / 9;
        found.add(new long[] {n / gcd(n, t), t / gcd(n, t), t});
      }
      before = key;
    }
    return found;
  }

  int roots(int poly) {
    return rootsOf(poly).size();
  }

  long root(int poly, int index, char what) {
    List<long[]> found = rootsOf(poly);
    if ("ndt".indexOf(what) < 0) {
      throw new IllegalArgumentException();
    }
    if (index < 0 || index >= found.size()) {
      throw new NoSuchElementException();
    }
    return found.get(index)["ndt".indexOf(what)];
  }

  int turnsAnew(int poly) {
    rootsOf(poly);
    return tops(at(poly), 1000000000, 0, 1).get(0) / 9 - tops(at(poly), -1000000000, 0, 1).get(0) / 9;
  }

  // ---- curves

  private static boolean isFlat(Collection<Integer> keys) {
    List<Integer> list = new ArrayList<>(keys);
    for (int a : list) {
      for (int b : list) {
        if (list.size() > 2 && cross(list.get(0), a, b) != 0) {
          return false;
        }
      }
    }
    return true;
  }

  private List<long[]> cornersOf(int poly) {
    return cornersOf(at(poly));
  }

  /** Rows of x, y and d: each point where three needed terms that are on no line are the greatest. */
  private static List<long[]> cornersOf(TreeMap<Integer, Long> p) {
    List<Integer> keys = new ArrayList<>(neededOf(p).keySet());
    if (isFlat(keys)) {
      throw new UnsupportedOperationException();
    }
    if (cornersBefore.containsKey(p)) {
      return cornersBefore.get(p);
    }
    List<long[]> found = new ArrayList<>();
    for (int a = 0; a < keys.size(); a++) {
      for (int b = a + 1; b < keys.size(); b++) {
        for (int c = b + 1; c < keys.size(); c++) {
          long[] point = solve(p, keys.get(a), keys.get(b), keys.get(c));
          if (point != null && isTop(p, keys.get(a), point)
              && found.stream().noneMatch(each -> Arrays.equals(each, point))) {
            found.add(point);
          }
        }
      }
    }
    found.sort((one, other) -> one[0] * other[2] != other[0] * one[2]
        ? Long.compare(one[0] * other[2], other[0] * one[2])
        : Long.compare(one[1] * other[2], other[1] * one[2]));
    keep(cornersBefore, p, found);
    return found;
  }

  private static boolean isTop(TreeMap<Integer, Long> p, int key, long[] point) {
    long height = p.get(key) * point[2] + key / 9 * point[0] + key % 9 * point[1];
    for (Map.Entry<Integer, Long> each : p.entrySet()) {
      int other = each.getKey();
      if (each.getValue() * point[2] + other / 9 * point[0] + other % 9 * point[1] > height) {
        return false;
      }
    }
    return true;
  }

  private static long[] solve(TreeMap<Integer, Long> p, int a, int b, int c) {
    long d = cross(a, b, c);
    if (d == 0) {
      return null;
    }
    long f = p.get(a) - p.get(b);
    long g = p.get(a) - p.get(c);
    long x = f * (c % 9 - a % 9) - g * (b % 9 - a % 9);
    long y = (b / 9 - a / 9) * g - (c / 9 - a / 9) * f;
    long shared = gcd(gcd(x, y), d) * (d < 0 ? -1 : 1);
    return new long[] {x / shared, y / shared, d / shared};
  }

  /** Vertices clockwise from the leftmost lowest; fewer than three stand for no polygon. */
  private static List<Integer> polygonOf(List<Integer> keys) {
    List<Integer> vertices = new ArrayList<>();
    if (keys.isEmpty() || isFlat(keys)) {
      return vertices;
    }
    int now = Collections.min(keys);
    do {
      vertices.add(now);
      int next = -1;
      for (int key : keys) {
        if (key == now) {
          continue;
        }
        int from = now;
        boolean isSide = keys.stream().allMatch(other -> cross(from, key, other) <= 0);
        boolean isFar = keys.stream().allMatch(other -> other == key || !isBetween(from, other, key)
            || cross(from, key, other) != 0);
        if (isSide && isFar) {
          next = key;
        }
      }
      now = next;
    } while (now != vertices.get(0));
    return vertices;
  }

  private static long areaOf(List<Integer> keys) {
    List<Integer> vertices = polygonOf(keys);
    long area = 0;
    for (int k = 0; k < vertices.size(); k++) {
      int a = vertices.get(k);
      int b = vertices.get((k + 1) % vertices.size());
      area += (long) (a / 9) * (b % 9) - (long) (a % 9) * (b / 9);
    }
    return Math.abs(area);
  }

  int corners(int poly) {
    return cornersOf(poly).size();
  }

  private static <T> T one(List<T> list, int index) {
    if (index < 0 || index >= list.size()) {
      throw new NoSuchElementException();
    }
    return list.get(index);
  }

  long corner(int poly, int index, char what) {
    List<long[]> found = cornersOf(poly);
    if ("xydane".indexOf(what) < 0) {
      throw new IllegalArgumentException();
    }
    long[] point = one(found, index);
    List<Integer> top = tops(at(poly), point[0], point[1], point[2]);
    if (what == 'a') {
      return areaOf(top);
    }
    return what == 'n' ? top.size() : what == 'e' ? polygonOf(top).size() : point["xyd".indexOf(what)];
  }

  long weight(int poly, int index, int edge) {
    long[] point = one(cornersOf(poly), index);
    List<Integer> vertices = polygonOf(tops(at(poly), point[0], point[1], point[2]));
    int a = one(vertices, edge);
    int b = vertices.get((edge + 1) % vertices.size());
    return gcd(b / 9 - a / 9, b % 9 - a % 9);
  }

  boolean isBalanced(int poly, int index) {
    one(cornersOf(poly), index);
    return true;
  }

  /** The sides that go on for ever, and those that do not, each once. */
  private int[] edgesOf(int poly) {
    Set<String> rays = new HashSet<>();
    Set<String> links = new HashSet<>();
    for (long[] point : cornersOf(poly)) {
      List<Integer> vertices = polygonOf(tops(at(poly), point[0], point[1], point[2]));
      for (int k = 0; k < vertices.size(); k++) {
        int a = vertices.get(k);
        int b = vertices.get((k + 1) % vertices.size());
        boolean isOuter = at(poly).keySet().stream().allMatch(key -> cross(a, b, key) <= 0);
        (isOuter ? rays : links).add(Math.min(a, b) + " " + Math.max(a, b));
      }
    }
    return new int[] {rays.size(), links.size()};
  }

  int rays(int poly) {
    return edgesOf(poly)[0];
  }

  int links(int poly) {
    return edgesOf(poly)[1];
  }

  int genus(int poly) {
    return links(poly) - corners(poly) + 1;
  }

  long area(int poly) {
    return areaOf(new ArrayList<>(at(poly).keySet()));
  }

  long areaAnew(int poly) {
    cornersOf(poly);
    return area(poly);
  }

  long meet(int one, int other) {
    TreeMap<Integer, Long> p = at(one);
    TreeMap<Integer, Long> q = at(other);
    if (p.isEmpty() || q.isEmpty()) {
      throw new UnsupportedOperationException();
    }
    return (areaOf(new ArrayList<>(productOf(p, q).keySet())) - area(one) - area(other)) / 2;
  }

  long meetAnew(int one, int other) {
    long found = meet(one, other);
    cornersOf(productOf(at(one), at(other)));
    return found;
  }

  // ---- matrices

  int matrix(int rows) {
    if (rows < 1 || rows > 6) {
      throw new IllegalArgumentException();
    }
    return keep(new Long[rows][rows]);
  }

  private int keep(Long[][] made) {
    if (matrices.size() == 12) {
      throw new IllegalStateException();
    }
    matrices.add(made);
    return matrices.size() - 1;
  }

  private Long[][] of(int matrix) {
    if (matrix < 0 || matrix >= matrices.size()) {
      throw new IndexOutOfBoundsException();
    }
    return matrices.get(matrix);
  }

  private static void checkPlace(Long[][] m, int row, int column) {
    if (row < 0 || row >= m.length || column < 0 || column >= m.length) {
      throw new IllegalArgumentException();
    }
  }

  private static int filled(Long[][] m) {
    int count = 0;
    for (Long[] row : m) {
      for (Long each : row) {
        count += each == null ? 0 : 1;
      }
    }
    return count;
  }

  int set(int matrix, int row, int column, int entry) {
    Long[][] m = of(matrix);
    checkPlace(m, row, column);
    if (entry < -999 || entry > 999) {
      throw new IllegalArgumentException();
    }
    m[row][column] = (long) entry;
    return filled(m);
  }

  int clear(int matrix, int row, int column) {
    Long[][] m = of(matrix);
    checkPlace(m, row, column);
    m[row][column] = null;
    return filled(m);
  }

  long entry(int matrix, int row, int column) {
    Long[][] m = of(matrix);
    checkPlace(m, row, column);
    if (m[row][column] == null) {
      throw new NoSuchElementException();
    }
    return m[row][column];
  }

  private static Long more(Long a, Long b) {
    return a == null ? b : b == null ? a : (Long) Math.max(a, b);
  }

  private static Long add(Long a, Long b) {
    return a == null || b == null ? null : (Long) (a + b);
  }

  private static Long[][] sumOf(Long[][] a, Long[][] b) {
    Long[][] made = new Long[a.length][a.length];
    for (int r = 0; r < a.length; r++) {
      for (int c = 0; c < a.length; c++) {
        made[r][c] = more(a[r][c], b[r][c]);
      }
    }
    return made;
  }

  private static Long[][] productOf(Long[][] a, Long[][] b) {
    Long[][] made = new Long[a.length][a.length];
    for (int r = 0; r < a.length; r++) {
      for (int c = 0; c < a.length; c++) {
        for (int k = 0; k < a.length; k++) {
          made[r][c] = more(made[r][c], add(a[r][k], b[k][c]));
        }
      }
    }
    return made;
  }

  private static void checkAlike(Long[][] a, Long[][] b) {
    if (a.length != b.length) {
      throw new UnsupportedOperationException();
    }
  }

  private static void checkNear(Long[][] m) {
    for (Long[] row : m) {
      for (Long each : row) {
        if (each != null && Math.abs(each) > 99999) {
          throw new UnsupportedOperationException();
        }
      }
    }
  }

  int plus(int one, int other) {
    Long[][] a = of(one);
    Long[][] b = of(other);
    checkAlike(a, b);
    return keep(sumOf(a, b));
  }

  int times(int one, int other) {
    Long[][] a = of(one);
    Long[][] b = of(other);
    checkAlike(a, b);
    Long[][] made = productOf(a, b);
    checkNear(made);
    return keep(made);
  }

  /** Sums of powers; no more than the rows are worth taking if no cycle is above 0. */
  private static Long[][] starOf(Long[][] a) {
    Long[][] power = new Long[a.length][a.length];
    for (int r = 0; r < a.length; r++) {
      power[r][r] = 0L;
    }
    Long[][] all = power;
    for (int k = 0; k < a.length + 2; k++) {
      power = productOf(power, a);
      all = sumOf(all, power);
    }
    return all;
  }

  int star(int matrix) {
    Long[][] a = of(matrix);
    long[] mean = meanOf(a);
    if (mean != null && mean[0] > 0) {
      throw new UnsupportedOperationException();
    }
    Long[][] made = starOf(a);
    checkNear(made);
    return keep(made);
  }

  /** Means of all cycles without a row twice; the rows of the greatest ones in the third place. */
  private static long[] meanOf(Long[][] a) {
    long[] best = null;
    for (int row = 0; row < a.length; row++) {
      best = tryWay(a, new ArrayList<>(List.of(row)), 0, best);
    }
    if (best != null) {
      long shared = gcd(best[0], best[1]);
      best[0] /= shared;
      best[1] /= shared;
    }
    return best;
  }

  private static long[] tryWay(Long[][] a, List<Integer> way, long sum, long[] best) {
    int last = way.get(way.size() - 1);
    for (int next = 0; next < a.length; next++) {
      if (a[last][next] == null) {
        continue;
      }
      long then = sum + a[last][next];
      if (next == way.get(0)) {
        long bits = 0;
        for (int each : way) {
          bits |= 1L << each;
        }
        long order = best == null ? 1 : Long.compare(then * best[1], best[0] * way.size());
        if (order > 0) {
          best = new long[] {then, way.size(), bits};
        } else if (order == 0) {
          best[2] |= bits;
        }
      } else if (!way.contains(next)) {
        way.add(next);
        best = tryWay(a, way, then, best);
        way.remove(way.size() - 1);
      }
    }
    return best;
  }

  private long[] meanDue(int matrix) {
    long[] mean = meanOf(of(matrix));
    if (mean == null) {
      throw new NoSuchElementException();
    }
    return mean;
  }

  long mean(int matrix, boolean isLower) {
    return meanDue(matrix)[isLower ? 1 : 0];
  }

  long meanAnew(int matrix, boolean isLower) {
    return mean(matrix, isLower);
  }

  long critical(int matrix) {
    long[] mean = meanOf(of(matrix));
    return mean == null ? 0 : mean[2];
  }

  long eigen(int matrix, int row) {
    Long[][] a = of(matrix);
    checkPlace(a, row, 0);
    long[] mean = meanDue(matrix);
    Long[][] scaled = new Long[a.length][a.length];
    for (int r = 0; r < a.length; r++) {
      for (int c = 0; c < a.length; c++) {
        scaled[r][c] = a[r][c] == null ? null : (Long) (a[r][c] * mean[1] - mean[0]);
      }
    }
    Long found = starOf(scaled)[row][Long.numberOfTrailingZeros(mean[2])];
    if (found == null) {
      throw new NoSuchElementException();
    }
    return found;
  }

  /** The greatest weight, how many have it, and the first that has it by columns. */
  private static final class Best {
    private Long weight;
    private int count;
    private List<Integer> first;
  }

  private static void tryAssign(Long[][] a, List<Integer> columns, long sum, Best best) {
    if (columns.size() == a.length) {
      if (best.weight == null || sum > best.weight) {
        best.weight = sum;
        best.count = 0;
        best.first = new ArrayList<>(columns);
      }
      best.count += sum == best.weight ? 1 : 0;
      return;
    }
    for (int c = 0; c < a.length; c++) {
      Long each = a[columns.size()][c];
      if (each != null && !columns.contains(c)) {
        columns.add(c);
        tryAssign(a, columns, sum + each, best);
        columns.remove(columns.size() - 1);
      }
    }
  }

  private static Best bestOf(Long[][] a) {
    Best best = new Best();
    tryAssign(a, new ArrayList<>(), 0, best);
    return best;
  }

  private static Best bestDue(Long[][] a) {
    Best best = bestOf(a);
    if (best.weight == null) {
      throw new NoSuchElementException();
    }
    return best;
  }

  long assignment(int matrix) {
    return bestDue(of(matrix)).weight;
  }

  int assigned(int matrix, int row) {
    checkPlace(of(matrix), row, 0);
    return bestDue(of(matrix)).first.get(row);
  }

  boolean isSingular(int matrix) {
    return bestOf(of(matrix)).count != 1;
  }

  int rank(int matrix) {
    Long[][] a = of(matrix);
    int best = 0;
    for (int rows = 1; rows < 1 << a.length; rows++) {
      for (int columns = 1; columns < 1 << a.length; columns++) {
        int size = Integer.bitCount(rows);
        if (size > best && size == Integer.bitCount(columns) && bestOf(part(a, rows, columns)).count == 1) {
          best = size;
        }
      }
    }
    return best;
  }

  private static Long[][] part(Long[][] a, int rows, int columns) {
    int size = Integer.bitCount(rows);
    Long[][] made = new Long[size][size];
    int r = 0;
    for (int row = 0; row < a.length; row++) {
      int c = 0;
      for (int column = 0; column < a.length; column++) {
        if ((rows >> row & 1) == 1 && (columns >> column & 1) == 1) {
          made[r][c++] = a[row][column];
        }
      }
      r += rows >> row & 1;
    }
    return made;
  }

  int unlike(int matrix) {
    Long[][] a = of(matrix);
    for (int r = 0; r < a.length; r++) {
      for (int c = r + 1; c < a.length; c++) {
        if (a[r][c] == null) {
          throw new UnsupportedOperationException();
        }
      }
    }
    for (int rows = 123; rows <= 2345; rows++) {
      int p = rows / 1000;
      int q = rows / 100 % 10;
      int r = rows / 10 % 10;
      int s = rows % 10;
      if (p < q && q < r && r < s && s < a.length) {
        long[] sums = {a[p][q] + a[r][s], a[p][r] + a[q][s], a[p][s] + a[q][r]};
        Arrays.sort(sums);
        if (sums[1] < sums[2]) {
          return rows;
        }
      }
    }
    throw new NoSuchElementException();
  }

  boolean isHeld(int one, int other, int column) {
    Long[][] a = of(one);
    Long[][] b = of(other);
    checkAlike(a, b);
    checkPlace(b, 0, column);
    Long[] reached = new Long[a.length];
    for (int k = 0; k < a.length; k++) {
      Long shift = null;
      boolean isOut = false;
      for (int r = 0; r < a.length; r++) {
        if (a[r][k] != null && b[r][column] == null) {
          isOut = true;
        } else if (a[r][k] != null) {
          long room = b[r][column] - a[r][k];
          shift = shift == null ? room : Math.min(shift, room);
        }
      }
      for (int r = 0; r < a.length && !isOut; r++) {
        reached[r] = more(reached[r], add(a[r][k], shift));
      }
    }
    for (int r = 0; r < a.length; r++) {
      if (!Objects.equals(reached[r], b[r][column])) {
        return false;
      }
    }
    return true;
  }

  // ---- timetables

  int begin(int matrix) {
    Long[][] a = of(matrix);
    table = new Long[a.length][];
    for (int r = 0; r < a.length; r++) {
      table[r] = a[r].clone();
    }
    begun = a.length;
    times = new long[begun];
    punctual = new long[begun];
    return begun;
  }

  private void checkBegun() {
    if (begun == 0) {
      throw new IllegalStateException();
    }
  }

  private long[] round(long[] now) {
    long[] then = now.clone();
    for (int r = 0; r < begun; r++) {
      Long best = null;
      for (int c = 0; c < begun; c++) {
        best = more(best, add(table[r][c], now[c]));
      }
      then[r] = best == null ? now[r] : best;
      if (Math.abs(then[r]) > 999999) {
        throw new UnsupportedOperationException();
      }
    }
    return then;
  }

  int go(int rounds) {
    checkBegun();
    if (rounds < 1 || rounds > 50) {
      throw new IllegalArgumentException();
    }
    long[] a = times;
    long[] b = punctual;
    for (int k = 0; k < rounds; k++) {
      a = round(a);
      b = round(b);
    }
    times = a;
    punctual = b;
    int count = 0;
    for (int r = 0; r < begun; r++) {
      count += times[r] > punctual[r] ? 1 : 0;
    }
    return count;
  }

  private void checkEvent(int event) {
    checkBegun();
    if (event < 0 || event >= begun) {
      throw new IllegalArgumentException();
    }
  }

  long delay(int event, int by) {
    checkEvent(event);
    if (by < 1 || by > 999) {
      throw new IllegalArgumentException();
    }
    if (times[event] + by > 999999) {
      throw new UnsupportedOperationException();
    }
    times[event] += by;
    return times[event];
  }

  long time(int event) {
    checkEvent(event);
    return times[event];
  }

  long late(int event) {
    checkEvent(event);
    return times[event] - punctual[event];
  }

  // ---- writing and figures

  int write(int poly) {
    TreeMap<Integer, Long> p = at(poly);
    StringBuilder text = new StringBuilder();
    for (int key : p.descendingKeySet()) {
      text.append(text.length() == 0 ? "" : "+").append(p.get(key));
      text.append("x".repeat(key / 9)).append("y".repeat(key % 9));
    }
    written = text.toString();
    return written.length();
  }

  char sign(int index) {
    if (index < 0 || index >= written.length()) {
      throw new NoSuchElementException();
    }
    return written.charAt(index);
  }

  long print() {
    long print = 7;
    for (TreeMap<Integer, Long> p : polys) {
      for (long c : p.values()) {
        print = 31 * print + c;
      }
      print = 31 * print;
    }
    for (Long[][] m : matrices) {
      for (Long[] row : m) {
        for (Long each : row) {
          print = 31 * print + (each == null ? 1 : 2 * each);
        }
      }
      print = 31 * print;
    }
    return print;
  }

  float neededShare(int poly) {
    TreeMap<Integer, Long> p = at(poly);
    if (p.isEmpty()) {
      throw new ArithmeticException();
    }
    return (float) neededOf(p).size() / (float) p.size();
  }

  double meanOf(int matrix) {
    long[] mean = meanDue(matrix);
    return (double) mean[0] / (double) mean[1];
  }

  boolean isSound() {
    return true;
  }
}
