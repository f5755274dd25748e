import java.util.ArrayList;
import java.util.List;
import java.util.Map;
import java.util.TreeMap;

/** A polynomial to try, told by its terms, or as the product of two that are told so. */
record PolySample(String kind, String name, int[][] terms, int[][] factor) {
  static final String NONE = "no terms";
  static final String ONE = "one term";
  static final String LINE = "terms on one line";
  static final String ORDINARY = "ordinary";
  static final String FULL = "81 terms";
  static final String PRODUCT = "product";

  /** Makes it in a garden without polynomials; returns its number there. */
  int make(Asked garden) {
    int number = garden.poly(terms);
    return factor == null ? number : garden.number("product", number, garden.poly(factor));
  }

  /** Coefficients by 9 times the power of x, plus that of y. */
  TreeMap<Integer, Integer> cells() {
    TreeMap<Integer, Integer> made = new TreeMap<>();
    for (int[] term : terms) {
      for (int[] by : factor == null ? new int[][] {{0, 0, 0}} : factor) {
        made.merge(9 * (term[0] + by[0]) + term[1] + by[1], term[2] + by[2], Math::max);
      }
    }
    return made;
  }

  boolean isOfXAlone() {
    return !cells().isEmpty() && cells().keySet().stream().allMatch(cell -> cell % 9 == 0);
  }

  boolean isOnLine() {
    List<Integer> all = new ArrayList<>(cells().keySet());
    for (int k = 2; k < all.size(); k++) {
      if (cross(all.get(0), all.get(1), all.get(k)) != 0) {
        return false;
      }
    }
    return true;
  }

  private static int cross(int a, int b, int c) {
    return (b / 9 - a / 9) * (c % 9 - a % 9) - (b % 9 - a % 9) * (c / 9 - a / 9);
  }

  private static PolySample of(String kind, String name, List<int[]> terms) {
    return new PolySample(kind, name, terms.toArray(new int[0][]), null);
  }

  static List<PolySample> all() {
    List<PolySample> list = new ArrayList<>();
    list.add(of(NONE, "nothing", List.of()));
    addSmallest(list);
    addLines(list);
    addOrdinary(list);
    addFullest(list);
    addProducts(list);
    return list;
  }

  private static void addSmallest(List<PolySample> list) {
    for (int cell = 0; cell < 81; cell++) {
      int coefficient = (cell % 3 - 1) * 999;
      list.add(of(ONE, "term " + cell, List.of(new int[] {cell / 9, cell % 9, coefficient})));
    }
    list.add(of(LINE, "two terms", List.of(new int[] {0, 0, -999}, new int[] {8, 8, 999})));
    list.add(of(LINE, "two terms of x", List.of(new int[] {0, 0, 999}, new int[] {8, 0, -999})));
    list.add(of(ORDINARY, "three terms", List.of(new int[] {0, 0, 0}, new int[] {1, 0, 0}, new int[] {0, 1, 0})));
    list.add(of(ORDINARY, "widest three", List.of(new int[] {0, 0, 999}, new int[] {8, 7, -999},
        new int[] {7, 8, 999})));
  }

  /** Each line through the powers that has three of them or more, from one end of it to the other. */
  private static void addLines(List<PolySample> list) {
    Draw draw = new Draw(1);
    int[][] steps = {{1, 0}, {0, 1}, {1, 1}, {1, -1}, {2, 1}, {1, 2}, {2, -1}, {1, -2}, {3, 1}, {1, -3}, {3, -2},
        {4, 3}, {4, -1}};
    for (int[] step : steps) {
      for (int cell = 0; cell < 81; cell++) {
        int i = cell / 9;
        int j = cell % 9;
        if (isPower(i - step[0], j - step[1]) || !isPower(i + 2 * step[0], j + 2 * step[1])) {
          continue;
        }
        int spread = new int[] {0, 2, 20, 999}[draw.below(4)];
        List<int[]> terms = new ArrayList<>();
        for (; isPower(i, j); i += step[0], j += step[1]) {
          if (draw.below(5) > 0 || terms.isEmpty()) {
            terms.add(new int[] {i, j, draw.between(-spread, spread)});
          }
        }
        list.add(of(terms.size() == 1 ? ONE : LINE, "line from " + cell + " by " + step[0] + " " + step[1], terms));
      }
    }
    for (int top = 1; top <= 8; top++) {
      List<int[]> bent = new ArrayList<>();
      for (int i = 0; i <= top; i++) {
        bent.add(new int[] {i, 0, -i * i * top});
      }
      list.add(of(LINE, "bent terms of x to " + top, bent));
    }
    addOfXAlone(list);
  }

  /** Small coefficients, so that several terms are often as high as what is between two others, straight on. */
  private static void addOfXAlone(List<PolySample> list) {
    Draw draw = new Draw(4);
    for (int number = 0; number < 60; number++) {
      int slope = draw.between(-3, 3);
      int gaps = number % 4;
      List<int[]> terms = new ArrayList<>();
      for (int i = 0; i <= 8; i++) {
        if (draw.below(8) >= gaps) {
          terms.add(new int[] {i, 0, slope * i - (number < 8 ? 0 : draw.below(2 + number % 3))});
        }
      }
      list.add(of(terms.size() < 2 ? ONE : LINE, "of x alone " + number, terms));
    }
  }

  private static boolean isPower(int i, int j) {
    return i >= 0 && i <= 8 && j >= 0 && j <= 8;
  }

  private static void addOrdinary(List<PolySample> list) {
    Draw draw = new Draw(2);
    for (int number = 0; number < 200; number++) {
      int top = 1 + number % 8;
      int spread = new int[] {1, 4, 30, 999}[draw.below(4)];
      int count = draw.between(3, 4 + 2 * top);
      List<int[]> terms = new ArrayList<>();
      for (int k = 0; k < count; k++) {
        terms.add(new int[] {draw.between(0, top), draw.between(0, top), draw.between(-spread, spread)});
      }
      PolySample made = of(ORDINARY, "drawn " + number, terms);
      list.add(made.isOnLine() ? of(made.cells().size() == 1 ? ONE : LINE, made.name(), terms) : made);
    }
  }

  private static void addFullest(List<PolySample> list) {
    for (int shape = 0; shape < 14; shape++) {
      Draw draw = new Draw(100 + shape);
      List<int[]> terms = new ArrayList<>();
      for (int cell = 0; cell < 81; cell++) {
        terms.add(new int[] {cell / 9, cell % 9, fullest(shape, cell / 9, cell % 9, draw)});
      }
      list.add(of(FULL, "full " + shape, terms));
    }
  }

  /** From one corner alone, over squares, to 128 triangles, and drawn ones. */
  private static int fullest(int shape, int i, int j, Draw draw) {
    return switch (shape) {
      case 0 -> 0;
      case 1 -> -(i * i + i * j + j * j);
      case 2 -> -(i * i + j * j);
      case 3 -> i * i + j * j;
      case 4 -> (i + j) % 2 == 0 ? 999 : -999;
      case 5 -> -(i - j) * (i - j);
      case 6 -> i == 4 && j == 4 ? 999 : -999;
      case 7 -> -5 * (i * i - i * j + j * j);
      case 8 -> -Math.abs(i - 4) * 111 - Math.abs(j - 4) * 100;
      case 9 -> draw.between(-1, 0);
      case 10 -> draw.between(-999, 999);
      case 11 -> -3 * (i * i + j * j) + draw.between(-2, 2);
      case 12 -> -5 * (i * i + i * j + j * j) + draw.between(-3, 3);
      default -> -(2 * i * i + i * j + 3 * j * j) + draw.between(0, 1);
    };
  }

  private static void addProducts(List<PolySample> list) {
    Draw draw = new Draw(3);
    for (int number = 0; number < 24; number++) {
      int top = 1 + number % 7;
      list.add(new PolySample(PRODUCT, "product " + number, square(top, 2 + draw.below(8), draw),
          square(8 - top, 2 + draw.below(8), draw)));
    }
    list.add(new PolySample(PRODUCT, "fullest product", square(4, 200, draw), square(4, 200, draw)));
    list.add(new PolySample(PRODUCT, "product with a constant", square(8, 900, draw), new int[][] {{0, 0, 999}}));
    list.removeIf(sample -> sample.kind().equals(PRODUCT) && sample.isOnLine());
  }

  private static int[][] square(int top, int count, Draw draw) {
    Map<Integer, int[]> terms = new TreeMap<>();
    for (int k = 0; k < count; k++) {
      int i = draw.between(0, top);
      int j = draw.between(0, top);
      terms.putIfAbsent(9 * i + j, new int[] {i, j, draw.between(-999, 999)});
    }
    return terms.values().toArray(new int[0][]);
  }
}
