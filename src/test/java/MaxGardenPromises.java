import java.util.NoSuchElementException;

/** The promises of the document, one by one: ordinary inputs, the edges it names, and wrong inputs. */
public final class MaxGardenPromises {
  private static final Class<?> INDEX = IndexOutOfBoundsException.class;
  private static final Class<?> ARGUMENT = IllegalArgumentException.class;
  private static final Class<?> STATE = IllegalStateException.class;
  private static final Class<?> UNSUPPORTED = UnsupportedOperationException.class;
  private static final Class<?> MISSING = NoSuchElementException.class;
  private static final Class<?> ARITHMETIC = ArithmeticException.class;

  private static int wrong = 0;
  private static int checked = 0;

  private interface Call {
    Object answer();
  }

  private static void due(int promise, Object want, Call call) {
    Object got;
    try {
      got = call.answer();
    } catch (RuntimeException e) {
      got = "throws " + e.getClass().getName();
    }
    checked++;
    if (!want.equals(got)) {
      wrong++;
      StackTraceElement at = new Throwable().getStackTrace()[1];
      System.out.println("promise " + promise + ", line " + at.getLineNumber() + ": answered " + got + ", due is " + want);
    }
  }

  /** A call that throws must change nothing, as far as the print tells. */
  private static void refused(int promise, MaxGarden garden, Class<?> thrown, Call call) {
    long before = garden.print();
    Object got;
    try {
      got = call.answer();
    } catch (RuntimeException e) {
      got = e.getClass();
    }
    checked++;
    if (got != thrown || garden.print() != before) {
      wrong++;
      StackTraceElement at = new Throwable().getStackTrace()[1];
      System.out.println("promise " + promise + ", line " + at.getLineNumber() + ": answered " + got + ", due is " + thrown
          + (garden.print() != before ? ", and it changed something" : ""));
    }
  }

  public static void main(String[] arguments) {
    newObject();
    polynomials();
    termsAndValues();
    sumsAndProducts();
    neededTerms();
    fullGrid();
    roots();
    corners();
    edges();
    areasAndMeetings();
    matrices();
    matrixSums();
    stars();
    means();
    eigenvectors();
    assignments();
    ranks();
    distances();
    hulls();
    timetables();
    farTimes();
    writing();
    prints();
    figures();
    sound();
    System.out.println("promises: " + checked + " checked, " + wrong + " wrong");
    if (wrong != 0) {
      System.exit(1);
    }
  }

  private static MaxGarden withPoly(int[]... terms) {
    MaxGarden garden = new MaxGarden();
    add(garden, terms);
    return garden;
  }

  private static int add(MaxGarden garden, int[]... terms) {
    int number = garden.poly();
    for (int[] term : terms) {
      garden.term(number, term[0], term[1], term[2]);
    }
    return number;
  }

  private static int[] t(int i, int j, int coefficient) {
    return new int[] {i, j, coefficient};
  }

  private static final Integer N = null;

  private static Integer[] row(Integer... entries) {
    return entries;
  }

  private static MaxGarden withMatrix(Integer[]... rows) {
    MaxGarden garden = new MaxGarden();
    lay(garden, rows);
    return garden;
  }

  private static int lay(MaxGarden garden, Integer[]... rows) {
    int number = garden.matrix(rows.length);
    for (int r = 0; r < rows.length; r++) {
      for (int c = 0; c < rows.length; c++) {
        if (rows[r][c] != null) {
          garden.set(number, r, c, rows[r][c]);
        }
      }
    }
    return number;
  }

  private static String entries(MaxGarden garden, int matrix, int rows) {
    StringBuilder text = new StringBuilder();
    for (int r = 0; r < rows; r++) {
      for (int c = 0; c < rows; c++) {
        try {
          text.append(garden.entry(matrix, r, c));
        } catch (NoSuchElementException e) {
          text.append('.');
        }
        text.append(c == rows - 1 ? "|" : " ");
      }
    }
    return text.toString();
  }

  private static String written(MaxGarden garden, int poly) {
    StringBuilder text = new StringBuilder();
    int length = garden.write(poly);
    for (int k = 0; k < length; k++) {
      text.append(garden.sign(k));
    }
    return text.toString();
  }

  private static void newObject() {
    MaxGarden g = new MaxGarden();
    due(1, 7L, () -> g.print());
    due(1, true, () -> g.isSound());
    refused(1, g, INDEX, () -> g.terms(0));
    refused(1, g, INDEX, () -> g.rank(0));
    refused(1, g, STATE, () -> g.time(0));
    refused(1, g, MISSING, () -> g.sign(0));
  }

  private static void polynomials() {
    MaxGarden g = new MaxGarden();
    for (int k = 0; k < 10; k++) {
      int number = k;
      due(2, number, () -> g.poly());
    }
    refused(2, g, STATE, () -> g.poly());
    due(2, 0, () -> g.terms(9));
    refused(2, g, INDEX, () -> g.terms(10));
    refused(5, g, INDEX, () -> g.terms(-1));
    refused(5, g, INDEX, () -> g.terms(Integer.MAX_VALUE));
    refused(5, g, INDEX, () -> g.terms(Integer.MIN_VALUE));
  }

  private static void termsAndValues() {
    MaxGarden g = new MaxGarden();
    refused(3, g, INDEX, () -> g.term(0, 9, 0, 0));
    g.poly();
    due(3, 1, () -> g.term(0, 0, 0, 999));
    due(3, 2, () -> g.term(0, 8, 8, -999));
    due(3, 2, () -> g.term(0, 8, 8, -998));
    due(3, -998, () -> g.coefficient(0, 8, 8));
    due(3, 2, () -> g.term(0, 8, 8, -999));
    due(3, -998, () -> g.coefficient(0, 8, 8));
    due(3, 3, () -> g.term(0, 0, 8, 3));
    due(3, 4, () -> g.term(0, 8, 0, 4));
    refused(3, g, ARGUMENT, () -> g.term(0, 0, 0, 1000));
    refused(3, g, ARGUMENT, () -> g.term(0, 0, 0, -1000));
    refused(3, g, ARGUMENT, () -> g.term(0, 9, 0, 0));
    refused(3, g, ARGUMENT, () -> g.term(0, -1, 0, 0));
    refused(3, g, ARGUMENT, () -> g.term(0, 0, 9, 0));
    refused(3, g, ARGUMENT, () -> g.term(0, 1, -1, 0));
    refused(3, g, INDEX, () -> g.term(1, 0, 0, 0));
    refused(3, g, INDEX, () -> g.term(-1, 0, 0, 1000));
    due(5, 4, () -> g.terms(0));
    due(6, 3, () -> g.coefficient(0, 0, 8));
    due(6, 4, () -> g.coefficient(0, 8, 0));
    refused(6, g, MISSING, () -> g.coefficient(0, 1, 1));
    refused(6, g, MISSING, () -> g.coefficient(0, 9, 0));
    refused(6, g, MISSING, () -> g.coefficient(0, 0, -1));
    refused(6, g, MISSING, () -> g.coefficient(0, -1, 9));
    refused(6, g, MISSING, () -> g.coefficient(0, 7, 9));
    refused(6, g, INDEX, () -> g.coefficient(1, 0, 0));
    due(4, 3, () -> g.drop(0, 0, 8));
    due(4, 3, () -> g.terms(0));
    refused(4, g, MISSING, () -> g.drop(0, 0, 8));
    refused(4, g, MISSING, () -> g.drop(0, 0, 9));
    refused(4, g, MISSING, () -> g.drop(0, -1, 0));
    refused(4, g, MISSING, () -> g.drop(0, 7, 9));
    refused(4, g, INDEX, () -> g.drop(1, 0, 0));
    due(4, 4, () -> g.term(0, 0, 8, -7));
    due(4, -7, () -> g.coefficient(0, 0, 8));

    MaxGarden v = withPoly(t(0, 0, 4), t(2, 1, -3), t(1, 1, 0));
    due(7, 4, () -> v.value(0, 0, 0));
    due(7, -3 + 20 + 5, () -> v.value(0, 10, 5));
    due(7, 4, () -> v.value(0, -9999, -9999));
    due(7, 3 * 9999 - 3, () -> v.value(0, 9999, 9999));
    due(7, 9999 - 3, () -> v.value(0, 9999, -9999));
    refused(7, v, ARGUMENT, () -> v.value(0, 10000, 0));
    refused(7, v, ARGUMENT, () -> v.value(0, -10000, 0));
    refused(7, v, ARGUMENT, () -> v.value(0, 0, 10000));
    refused(7, v, ARGUMENT, () -> v.value(0, 0, -10000));
    refused(7, v, INDEX, () -> v.value(1, 10000, 0));
    due(8, 1, () -> v.greatest(0, 0, 0));
    due(8, 3, () -> v.greatest(0, 3, 1));
    due(8, 2, () -> v.greatest(0, 3, 2));
    due(8, 1, () -> v.greatest(0, 5, 0));
    due(8, 1, () -> v.greatest(0, 9999, 9999));
    due(8, 1, () -> v.greatest(0, -9999, -9999));
    refused(8, v, ARGUMENT, () -> v.greatest(0, 10000, 0));
    refused(8, v, ARGUMENT, () -> v.greatest(0, -10000, 0));
    refused(8, v, ARGUMENT, () -> v.greatest(0, 0, 10000));
    refused(8, v, ARGUMENT, () -> v.greatest(0, 0, -10000));
    refused(8, v, INDEX, () -> v.greatest(-1, 10000, 0));
    v.poly();
    refused(7, v, MISSING, () -> v.value(1, 0, 0));
    refused(7, v, ARGUMENT, () -> v.value(1, 10000, 0));
    due(8, 0, () -> v.greatest(1, 0, 0));
    refused(8, v, ARGUMENT, () -> v.greatest(1, 0, 10000));
    due(8, 3, () -> withPoly(t(0, 0, 1), t(1, 0, 0), t(0, 1, -1), t(1, 1, -3)).greatest(0, 1, 2));
  }

  private static void sumsAndProducts() {
    MaxGarden g = withPoly(t(0, 0, 4), t(1, 0, 2), t(8, 8, -9));
    add(g, t(0, 0, 5), t(1, 0, 1), t(0, 3, 7));
    due(9, 2, () -> g.sum(0, 1));
    due(9, 4, () -> g.terms(2));
    due(9, 5, () -> g.coefficient(2, 0, 0));
    due(9, 2, () -> g.coefficient(2, 1, 0));
    due(9, 7, () -> g.coefficient(2, 0, 3));
    due(9, -9, () -> g.coefficient(2, 8, 8));
    due(9, 3, () -> g.sum(1, 1));
    due(9, true, () -> g.isSame(1, 3));
    g.term(1, 5, 5, 3);
    due(9, 3, () -> g.terms(3));
    refused(9, g, INDEX, () -> g.sum(0, 4));
    refused(9, g, INDEX, () -> g.sum(-1, 0));
    refused(10, g, INDEX, () -> g.product(4, 0));
    refused(10, g, INDEX, () -> g.product(0, -1));
    refused(10, g, UNSUPPORTED, () -> g.product(0, 1));

    MaxGarden p = withPoly(t(0, 0, 1), t(1, 0, 2), t(0, 1, -3));
    due(10, 1, () -> p.product(0, 0));
    due(10, "4xx+-1xy+3x+-6yy+-2y+2", () -> written(p, 1));
    due(10, 2, () -> p.product(1, 1));
    due(10, 3, () -> p.product(2, 2));
    due(10, 45, () -> p.terms(3));
    due(10, 16, () -> p.coefficient(3, 8, 0));
    due(10, -24, () -> p.coefficient(3, 0, 8));
    refused(10, p, UNSUPPORTED, () -> p.product(3, 0));
    refused(10, p, UNSUPPORTED, () -> p.product(0, 3));
    int empty = p.poly();
    due(10, 5, () -> p.product(3, empty));
    due(10, 0, () -> p.terms(5));
    due(10, 6, () -> p.product(empty, empty));
    add(p, t(0, 0, -5));
    due(10, 8, () -> p.product(3, 7));
    due(10, 45, () -> p.terms(8));
    due(10, 11, () -> p.coefficient(8, 8, 0));
    p.poly();
    refused(10, p, STATE, () -> p.product(0, 0));
    refused(10, p, STATE, () -> p.product(3, 3));
    refused(10, p, INDEX, () -> p.product(3, 10));
    refused(9, p, STATE, () -> p.sum(0, 0));
    refused(9, p, INDEX, () -> p.sum(10, 0));

    MaxGarden y = withPoly(t(0, 5, 1), t(8, 0, 0));
    add(y, t(0, 4, 1));
    refused(10, y, UNSUPPORTED, () -> y.product(0, 1));
    due(10, 3, () -> y.drop(0, 0, 5) + y.term(0, 0, 4, 5) );
    due(10, 2, () -> y.product(0, 1));
    due(10, 6, () -> y.coefficient(2, 0, 8));
    due(10, 1, () -> y.coefficient(2, 8, 4));

    MaxGarden big = withPoly(t(0, 0, 999));
    for (int k = 0; k < 9; k++) {
      big.product(k, k);
    }
    due(10, 511488, () -> big.coefficient(9, 0, 0));
    due(3, 1, () -> big.term(9, 0, 0, 999));
    due(3, 511488, () -> big.coefficient(9, 0, 0));
    big.term(9, 8, 0, -999);
    big.term(9, 0, 8, -999);
    due(18, 512487, () -> big.corner(9, 0, 'x'));
    due(18, 8, () -> big.corner(9, 0, 'd'));
    due(50, true, () -> written(big, 9).equals("-999xxxxxxxx+-999yyyyyyyy+511488"));
    due(7, 511488, () -> big.value(9, 9999, -9999));
  }

  private static void neededTerms() {
    MaxGarden g = withPoly(t(0, 0, 0), t(2, 0, 2), t(1, 0, 1));
    due(11, true, () -> g.isNeeded(0, 0, 0));
    due(11, true, () -> g.isNeeded(0, 2, 0));
    due(11, false, () -> g.isNeeded(0, 1, 0));
    due(12, 2, () -> g.needed(0));
    g.term(0, 1, 0, 2);
    due(11, true, () -> g.isNeeded(0, 1, 0));
    due(12, 3, () -> g.needed(0));
    refused(11, g, MISSING, () -> g.isNeeded(0, 3, 0));
    refused(11, g, MISSING, () -> g.isNeeded(0, 9, 0));
    refused(11, g, MISSING, () -> g.isNeeded(0, 0, -9));
    refused(11, g, INDEX, () -> g.isNeeded(1, 0, 0));
    refused(12, g, INDEX, () -> g.needed(-1));
    refused(12, g, INDEX, () -> g.needed(1));
    due(12, 1, () -> withPoly(t(4, 4, -9)).needed(0));
    due(12, 0, () -> withPoly().needed(0));

    MaxGarden slanted = withPoly(t(0, 6, 0), t(2, 4, 3), t(4, 2, 7), t(6, 0, 9), t(1, 5, 1), t(3, 3, 5));
    due(11, false, () -> slanted.isNeeded(0, 1, 5));
    due(11, false, () -> slanted.isNeeded(0, 3, 3));
    due(11, false, () -> slanted.isNeeded(0, 2, 4));
    due(12, 3, () -> slanted.needed(0));

    MaxGarden triangle = withPoly(t(0, 0, 0), t(3, 0, 0), t(0, 3, 3), t(1, 1, 1));
    due(11, false, () -> triangle.isNeeded(0, 1, 1));
    due(12, 3, () -> triangle.needed(0));
    triangle.term(0, 1, 1, 2);
    due(11, true, () -> triangle.isNeeded(0, 1, 1));
    due(12, 4, () -> triangle.needed(0));
    MaxGarden square = withPoly(t(0, 0, 0), t(2, 0, -9), t(0, 2, -9), t(2, 2, 2), t(1, 1, 1));
    due(11, false, () -> square.isNeeded(0, 1, 1));
    due(12, 4, () -> square.needed(0));

    MaxGarden same = withPoly(t(0, 0, 0), t(2, 0, 2), t(1, 0, 1));
    add(same, t(0, 0, 0), t(2, 0, 2));
    add(same, t(0, 0, 0), t(2, 0, 3));
    add(same, t(0, 0, 0), t(2, 0, 2), t(0, 1, -900));
    same.poly();
    same.poly();
    due(13, true, () -> same.isSame(0, 1));
    due(13, true, () -> same.isSame(1, 0));
    due(13, true, () -> same.isSame(2, 2));
    due(13, false, () -> same.isSame(0, 2));
    due(13, false, () -> same.isSame(1, 3));
    due(13, false, () -> same.isSame(3, 1));
    due(13, true, () -> same.isSame(4, 5));
    due(13, false, () -> same.isSame(4, 0));
    add(same, t(0, 0, 1), t(2, 0, 2));
    due(13, false, () -> same.isSame(1, 6));
    add(same, t(2, 0, 2));
    due(13, false, () -> same.isSame(1, 7));
    refused(13, same, INDEX, () -> same.isSame(8, 0));
    refused(13, same, INDEX, () -> same.isSame(0, -1));
  }

  /** All 81 terms, once bent so that each is needed and 128 corners stand, once flat. */
  private static void fullGrid() {
    MaxGarden g = new MaxGarden();
    int bent = g.poly();
    int flat = g.poly();
    for (int i = 0; i < 9; i++) {
      for (int j = 0; j < 9; j++) {
        g.term(bent, i, j, -3 * (i * i + i * j + j * j));
        g.term(flat, i, j, 5 - 2 * i + 7 * j);
      }
    }
    due(3, 81, () -> g.terms(bent));
    due(12, 81, () -> g.needed(bent));
    due(17, 128, () -> g.corners(bent));
    due(21, 32, () -> g.rays(bent));
    due(22, 176, () -> g.links(bent));
    due(23, 49, () -> g.genus(bent));
    due(25, 128, () -> g.areaAnew(bent));
    due(24, 128, () -> g.area(bent));
    due(53, 1.0f, () -> g.neededShare(bent));
    due(12, 4, () -> g.needed(flat));
    due(17, 1, () -> g.corners(flat));
    due(18, 81, () -> g.corner(flat, 0, 'n'));
    due(18, 4, () -> g.corner(flat, 0, 'e'));
    due(18, 128, () -> g.corner(flat, 0, 'a'));
    due(18, 2, () -> g.corner(flat, 0, 'x'));
    due(18, -7, () -> g.corner(flat, 0, 'y'));
    due(19, 8, () -> g.weight(flat, 0, 3));
    due(50, true, () -> g.write(bent) > 1000 && g.sign(g.write(bent) - 1) == '0');
    due(55, true, () -> g.isSound());
    due(8, 81, () -> g.greatest(flat, 2, -7));
  }

  private static void roots() {
    MaxGarden g = withPoly(t(0, 0, 4), t(2, 0, 5), t(1, 0, 1), t(5, 0, 0));
    due(14, 2, () -> g.roots(0));
    due(15, -1, () -> g.root(0, 0, 'n'));
    due(15, 2, () -> g.root(0, 0, 'd'));
    due(15, 2, () -> g.root(0, 0, 't'));
    due(15, 5, () -> g.root(0, 1, 'n'));
    due(15, 3, () -> g.root(0, 1, 'd'));
    due(15, 3, () -> g.root(0, 1, 't'));
    due(16, 5, () -> g.turnsAnew(0));
    refused(15, g, MISSING, () -> g.root(0, 2, 'n'));
    refused(15, g, MISSING, () -> g.root(0, -1, 't'));
    refused(15, g, MISSING, () -> g.root(0, Integer.MAX_VALUE, 't'));
    refused(15, g, MISSING, () -> g.root(0, Integer.MIN_VALUE, 't'));
    refused(15, g, ARGUMENT, () -> g.root(0, 0, 'x'));
    refused(15, g, ARGUMENT, () -> g.root(0, 9, 'N'));
    refused(15, g, INDEX, () -> g.root(1, 0, 'N'));
    refused(14, g, INDEX, () -> g.roots(1));
    refused(16, g, INDEX, () -> g.turnsAnew(-1));
    g.term(0, 1, 1, -999);
    refused(14, g, UNSUPPORTED, () -> g.roots(0));
    refused(15, g, UNSUPPORTED, () -> g.root(0, 0, 'N'));
    refused(16, g, UNSUPPORTED, () -> g.turnsAnew(0));
    g.poly();
    refused(14, g, UNSUPPORTED, () -> g.roots(1));
    refused(15, g, UNSUPPORTED, () -> g.root(1, 0, 'n'));
    refused(16, g, UNSUPPORTED, () -> g.turnsAnew(1));
    g.term(1, 3, 0, 5);
    due(14, 0, () -> g.roots(1));
    due(16, 0, () -> g.turnsAnew(1));
    refused(15, g, MISSING, () -> g.root(1, 0, 'n'));
    g.term(1, 7, 0, 5);
    due(15, 0, () -> g.root(1, 0, 'n'));
    due(15, 1, () -> g.root(1, 0, 'd'));
    due(15, 4, () -> g.root(1, 0, 't'));
    due(16, 4, () -> g.turnsAnew(1));
    g.term(1, 8, 0, -1);
    g.term(1, 5, 0, 4);
    due(14, 2, () -> g.roots(1));
    due(15, 6, () -> g.root(1, 1, 'n'));
    due(16, 5, () -> g.turnsAnew(1));
    due(14, 1, () -> withPoly(t(0, 0, 0), t(1, 0, 1), t(2, 0, 2), t(3, 0, 3)).roots(0));
    MaxGarden half = withPoly(t(1, 0, 9), t(7, 0, 5), t(8, 0, -999));
    due(15, 2, () -> half.root(0, 0, 'n'));
    due(15, 3, () -> half.root(0, 0, 'd'));
    due(15, 6, () -> half.root(0, 0, 't'));
    due(15, 1004, () -> half.root(0, 1, 'n'));
    due(15, 1, () -> half.root(0, 1, 'd'));
    due(16, 7, () -> half.turnsAnew(0));
    MaxGarden far = withPoly(t(0, 0, 999), t(8, 0, -999), t(4, 0, 1));
    due(15, 499, () -> far.root(0, 0, 'n'));
    due(15, 2, () -> far.root(0, 0, 'd'));
    due(15, 250, () -> far.root(0, 1, 'n'));
    due(16, 8, () -> far.turnsAnew(0));
  }

  private static void corners() {
    MaxGarden g = withPoly(t(0, 0, 0), t(1, 0, 1), t(0, 1, 1), t(1, 1, 1), t(2, 0, 0), t(0, 2, 0));
    due(17, 4, () -> g.corners(0));
    int[][] points = {{-1, -1, 3}, {0, 0, 3}, {0, 1, 3}, {1, 0, 3}};
    for (int k = 0; k < 4; k++) {
      int index = k;
      due(18, points[k][0], () -> g.corner(0, index, 'x'));
      due(18, points[k][1], () -> g.corner(0, index, 'y'));
      due(18, 1, () -> g.corner(0, index, 'd'));
      due(18, 1, () -> g.corner(0, index, 'a'));
      due(18, points[k][2], () -> g.corner(0, index, 'n'));
      due(18, points[k][2], () -> g.corner(0, index, 'e'));
      due(20, true, () -> g.isBalanced(0, index));
    }
    refused(18, g, MISSING, () -> g.corner(0, 4, 'x'));
    refused(18, g, MISSING, () -> g.corner(0, -1, 'x'));
    refused(18, g, ARGUMENT, () -> g.corner(0, 4, 't'));
    refused(18, g, ARGUMENT, () -> g.corner(0, 0, 'X'));
    refused(18, g, INDEX, () -> g.corner(1, 4, 't'));
    refused(17, g, INDEX, () -> g.corners(1));
    refused(20, g, INDEX, () -> g.isBalanced(1, 0));
    refused(20, g, MISSING, () -> g.isBalanced(0, 4));
    refused(20, g, MISSING, () -> g.isBalanced(0, -1));

    MaxGarden slow = withPoly(t(0, 0, -999), t(8, 0, 999), t(0, 8, 0));
    due(18, -1998, () -> slow.corner(0, 0, 'x'));
    due(18, -999, () -> slow.corner(0, 0, 'y'));
    due(18, 8, () -> slow.corner(0, 0, 'd'));
    due(18, 64, () -> slow.corner(0, 0, 'a'));
    due(18, 1, () -> withPoly(t(0, 0, 3), t(1, 0, 3), t(0, 1, 3)).corner(0, 0, 'd'));

    MaxGarden square = withPoly(t(0, 0, 0), t(2, 0, 2), t(0, 2, 4), t(2, 2, 6), t(1, 1, 3), t(1, 0, 0));
    due(17, 1, () -> square.corners(0));
    due(18, -1, () -> square.corner(0, 0, 'x'));
    due(18, -2, () -> square.corner(0, 0, 'y'));
    due(18, 8, () -> square.corner(0, 0, 'a'));
    due(18, 5, () -> square.corner(0, 0, 'n'));
    due(18, 4, () -> square.corner(0, 0, 'e'));

    MaxGarden byFractions = withPoly(t(0, 0, 0), t(2, 0, -1), t(0, 2, -1), t(2, 2, -3), t(3, 1, -5));
    due(17, 3, () -> byFractions.corners(0));
    due(18, "1/2 1/2, 1/1 1/1, 3/1 1/1, ", () -> places(byFractions, 0));

    due(18, "0/1 0/1, 0/2 1/2, 1/5 1/5, 2/7 1/7, 1/2 -1/2, ", () -> places(withPoly(
        t(0, 0, 0), t(0, 3, -1), t(1, 0, 0), t(3, 3, -1), t(4, 1, -1), t(3, 0, -1), t(0, 1, 0)), 0));

    MaxGarden flat = withPoly(t(0, 1, 0), t(1, 2, 5), t(2, 3, 1));
    add(flat);
    add(flat, t(3, 3, 3));
    for (int k = 0; k < 3; k++) {
      int poly = k;
      refused(17, flat, UNSUPPORTED, () -> flat.corners(poly));
      refused(18, flat, UNSUPPORTED, () -> flat.corner(poly, 0, 'q'));
      refused(19, flat, UNSUPPORTED, () -> flat.weight(poly, 0, 0));
      refused(20, flat, UNSUPPORTED, () -> flat.isBalanced(poly, 0));
      refused(21, flat, UNSUPPORTED, () -> flat.rays(poly));
      refused(22, flat, UNSUPPORTED, () -> flat.links(poly));
      refused(23, flat, UNSUPPORTED, () -> flat.genus(poly));
      refused(25, flat, UNSUPPORTED, () -> flat.areaAnew(poly));
      due(24, 0, () -> flat.area(poly));
    }
    refused(18, flat, INDEX, () -> flat.corner(3, 0, 'q'));
    refused(19, flat, INDEX, () -> flat.weight(3, 0, 0));
    refused(21, flat, INDEX, () -> flat.rays(3));
    refused(22, flat, INDEX, () -> flat.links(3));
    refused(23, flat, INDEX, () -> flat.genus(-1));
    refused(24, flat, INDEX, () -> flat.area(3));
    refused(25, flat, INDEX, () -> flat.areaAnew(3));
  }

  private static String places(MaxGarden garden, int poly) {
    StringBuilder text = new StringBuilder();
    for (int k = 0; k < garden.corners(poly); k++) {
      int d = garden.corner(poly, k, 'd');
      text.append(garden.corner(poly, k, 'x')).append('/').append(d).append(' ');
      text.append(garden.corner(poly, k, 'y')).append('/').append(d).append(", ");
    }
    return text.toString();
  }

  private static void edges() {
    MaxGarden g = withPoly(t(1, 2, 0), t(1, 5, 0), t(3, 7, 0), t(7, 3, 0), t(3, 2, 0), t(2, 4, 0));
    due(18, 5, () -> g.corner(0, 0, 'e'));
    int[] weights = {3, 2, 4, 1, 2};
    for (int k = 0; k < weights.length; k++) {
      int edge = k;
      due(19, weights[k], () -> g.weight(0, 0, edge));
    }
    refused(19, g, MISSING, () -> g.weight(0, 0, 5));
    refused(19, g, MISSING, () -> g.weight(0, 0, -1));
    refused(19, g, MISSING, () -> g.weight(0, 1, 0));
    refused(19, g, MISSING, () -> g.weight(0, -1, 0));
    refused(19, g, INDEX, () -> g.weight(1, 1, 0));
    due(20, true, () -> g.isBalanced(0, 0));
    due(21, 5, () -> g.rays(0));
    due(22, 0, () -> g.links(0));
    due(23, 0, () -> g.genus(0));

    MaxGarden room = withPoly(t(0, 0, 0), t(3, 0, 0), t(0, 3, 0), t(1, 1, 5));
    due(17, 3, () -> room.corners(0));
    due(21, 3, () -> room.rays(0));
    due(22, 3, () -> room.links(0));
    due(23, 1, () -> room.genus(0));
    due(25, 9, () -> room.areaAnew(0));
    due(19, "3 1 1 1 1 3 3 1 1 ", () -> {
      StringBuilder text = new StringBuilder();
      for (int k = 0; k < 9; k++) {
        text.append(room.weight(0, k / 3, k % 3)).append(' ');
      }
      return text.toString();
    });
    MaxGarden steep = withPoly(t(0, 0, 0), t(0, 1, 3), t(0, 3, 10), t(0, 4, 12), t(0, 8, 13), t(1, 0, 0));
    due(12, 5, () -> steep.needed(0));
    due(17, 3, () -> steep.corners(0));
    due(21, 5, () -> steep.rays(0));
    due(22, 2, () -> steep.links(0));
    MaxGarden wide = withPoly(t(0, 0, 0), t(2, 0, 5), t(4, 0, 0), t(0, 4, 0), t(1, 0, 2));
    due(17, 2, () -> wide.corners(0));
    due(21, 4, () -> wide.rays(0));
    due(22, 1, () -> wide.links(0));
    due(18, 3, () -> wide.corner(0, 0, 'n'));
    due(19, 4, () -> wide.weight(0, 0, 0));
    due(19, 2, () -> wide.weight(0, 0, 1));
    due(19, 2, () -> wide.weight(0, 0, 2));
  }

  private static void areasAndMeetings() {
    MaxGarden g = withPoly(t(0, 0, 0), t(1, 0, 0), t(0, 1, 0));
    add(g, t(0, 0, 0), t(1, 0, 1), t(0, 1, 1), t(1, 1, 1), t(2, 0, 0), t(0, 2, 0));
    add(g, t(3, 3, 3));
    add(g, t(0, 0, 0), t(2, 0, 1));
    add(g, t(0, 0, 0), t(0, 3, 1));
    g.poly();
    add(g, t(7, 0, 0), t(0, 7, 2), t(7, 7, 9));
    due(24, 1, () -> g.area(0));
    due(24, 4, () -> g.area(1));
    due(24, 0, () -> g.area(2));
    due(24, 0, () -> g.area(3));
    due(24, 0, () -> g.area(5));
    due(25, 1, () -> g.areaAnew(0));
    due(25, 4, () -> g.areaAnew(1));
    due(26, 2, () -> g.meet(0, 1));
    due(26, 2, () -> g.meet(1, 0));
    due(26, 1, () -> g.meet(0, 0));
    due(26, 4, () -> g.meet(1, 1));
    due(26, 0, () -> g.meet(1, 2));
    due(26, 6, () -> g.meet(3, 4));
    due(26, 0, () -> g.meet(3, 3));
    due(26, 2, () -> g.meet(3, 0));
    due(26, 14, () -> g.meet(6, 0));
    due(27, 2, () -> g.meetAnew(0, 1));
    due(27, 1, () -> g.meetAnew(0, 0));
    due(27, 4, () -> g.meetAnew(1, 1));
    due(27, 0, () -> g.meetAnew(1, 2));
    due(27, 6, () -> g.meetAnew(3, 4));
    due(27, 2, () -> g.meetAnew(3, 0));
    due(27, 14, () -> g.meetAnew(0, 6));
    refused(26, g, UNSUPPORTED, () -> g.meet(5, 0));
    refused(26, g, UNSUPPORTED, () -> g.meet(0, 5));
    refused(26, g, UNSUPPORTED, () -> g.meet(6, 1));
    refused(26, g, UNSUPPORTED, () -> g.meet(6, 3));
    refused(26, g, UNSUPPORTED, () -> g.meet(6, 4));
    refused(26, g, INDEX, () -> g.meet(5, 7));
    refused(26, g, INDEX, () -> g.meet(-1, 5));
    refused(27, g, UNSUPPORTED, () -> g.meetAnew(5, 0));
    refused(27, g, UNSUPPORTED, () -> g.meetAnew(0, 5));
    refused(27, g, UNSUPPORTED, () -> g.meetAnew(6, 1));
    refused(27, g, UNSUPPORTED, () -> g.meetAnew(3, 3));
    refused(27, g, UNSUPPORTED, () -> g.meetAnew(2, 3));
    refused(27, g, INDEX, () -> g.meetAnew(5, 7));
    refused(27, g, INDEX, () -> g.meetAnew(-1, 5));
    due(26, 7, () -> g.poly() );
    due(26, 4, () -> withPoly(t(0, 0, 0), t(2, 0, 7), t(0, 2, 5), t(1, 1, 8)).meet(0, 0));
  }

  private static void matrices() {
    MaxGarden g = new MaxGarden();
    refused(28, g, ARGUMENT, () -> g.matrix(0));
    refused(28, g, ARGUMENT, () -> g.matrix(7));
    refused(28, g, ARGUMENT, () -> g.matrix(Integer.MIN_VALUE));
    for (int k = 0; k < 12; k++) {
      int number = k;
      due(28, number, () -> g.matrix(number % 6 + 1));
    }
    refused(28, g, STATE, () -> g.matrix(1));
    refused(28, g, ARGUMENT, () -> g.matrix(7));
    refused(28, g, ARGUMENT, () -> g.matrix(0));
    due(28, ". .|. .|", () -> entries(g, 1, 2));

    due(29, 1, () -> g.set(5, 5, 5, 999));
    due(29, 2, () -> g.set(5, 0, 5, -999));
    due(29, 3, () -> g.set(5, 5, 0, 0));
    due(29, 3, () -> g.set(5, 5, 0, 8));
    due(31, 8, () -> g.entry(5, 5, 0));
    due(31, 999, () -> g.entry(5, 5, 5));
    due(31, -999, () -> g.entry(5, 0, 5));
    refused(29, g, ARGUMENT, () -> g.set(5, 0, 0, 1000));
    refused(29, g, ARGUMENT, () -> g.set(5, 0, 0, -1000));
    refused(29, g, ARGUMENT, () -> g.set(5, 6, 0, 0));
    refused(29, g, ARGUMENT, () -> g.set(5, 0, 6, 0));
    refused(29, g, ARGUMENT, () -> g.set(5, -1, 0, 0));
    refused(29, g, ARGUMENT, () -> g.set(5, 0, -1, 0));
    refused(29, g, ARGUMENT, () -> g.set(1, 2, 0, 0));
    refused(29, g, ARGUMENT, () -> g.set(1, 0, 2, 0));
    refused(29, g, INDEX, () -> g.set(12, 9, 9, 9999));
    refused(29, g, INDEX, () -> g.set(-1, 0, 0, 0));
    due(30, 2, () -> g.clear(5, 5, 0));
    due(30, 2, () -> g.clear(5, 5, 0));
    due(30, 0, () -> g.clear(0, 0, 0));
    due(29, 1, () -> g.set(0, 0, 0, 4));
    due(29, 2, () -> g.set(1, 0, 0, 4) + g.clear(0, 0, 0) + g.set(6, 0, 0, 1));
    due(30, 0, () -> g.clear(1, 0, 0));
    refused(30, g, ARGUMENT, () -> g.clear(5, 6, 0));
    refused(30, g, ARGUMENT, () -> g.clear(5, 0, 6));
    refused(30, g, ARGUMENT, () -> g.clear(1, -1, 0));
    refused(30, g, ARGUMENT, () -> g.clear(1, 0, -1));
    refused(30, g, ARGUMENT, () -> g.clear(1, 0, 2));
    refused(30, g, INDEX, () -> g.clear(12, 0, 2));
    refused(31, g, MISSING, () -> g.entry(5, 5, 0));
    refused(31, g, ARGUMENT, () -> g.entry(5, 0, 6));
    refused(31, g, ARGUMENT, () -> g.entry(5, 6, 0));
    refused(31, g, ARGUMENT, () -> g.entry(1, -1, 0));
    refused(31, g, ARGUMENT, () -> g.entry(1, 1, -1));
    refused(31, g, INDEX, () -> g.entry(12, 9, 9));
    refused(31, g, INDEX, () -> g.entry(-1, 0, 0));
  }

  private static void matrixSums() {
    MaxGarden g = withMatrix(row(1, N, 3), row(N, -5, 2), row(0, N, N));
    lay(g, row(2, 4, N), row(N, -6, 2), row(N, 7, N));
    lay(g, row(0, 0), row(0, 0));
    due(32, 3, () -> g.plus(0, 1));
    due(32, "2 4 3|. -5 2|0 7 .|", () -> entries(g, 3, 3));
    due(33, 4, () -> g.times(0, 1));
    due(33, "3 10 .|. 9 -3|2 4 .|", () -> entries(g, 4, 3));
    due(33, 5, () -> g.times(1, 0));
    due(33, "3 -1 6|2 -11 -4|. 2 9|", () -> entries(g, 5, 3));
    due(32, 6, () -> g.plus(0, 0));
    g.set(0, 0, 0, 9);
    due(32, "1 . 3|. -5 2|0 . .|", () -> entries(g, 6, 3));
    refused(32, g, UNSUPPORTED, () -> g.plus(0, 2));
    refused(32, g, INDEX, () -> g.plus(2, 7));
    refused(32, g, INDEX, () -> g.plus(-1, 2));
    refused(33, g, UNSUPPORTED, () -> g.times(2, 0));
    refused(33, g, INDEX, () -> g.times(7, 2));
    refused(33, g, INDEX, () -> g.times(0, -1));

    MaxGarden big = withMatrix(row(999, N), row(N, -999));
    for (int k = 0; k < 6; k++) {
      int from = k;
      due(33, from + 1, () -> big.times(from, from));
    }
    due(33, "63936 .|. -63936|", () -> entries(big, 6, 2));
    refused(33, big, UNSUPPORTED, () -> big.times(6, 6));
    due(33, 7, () -> big.times(6, 5));
    due(33, "95904 .|. -95904|", () -> entries(big, 7, 2));
    due(33, 8, () -> big.times(7, 2));
    due(33, "99900 .|. -99900|", () -> entries(big, 8, 2));
    lay(big, row(99, N), row(N, -99));
    due(33, 10, () -> big.times(8, 9));
    due(33, "99999 .|. -99999|", () -> entries(big, 10, 2));
    big.set(9, 0, 0, 100);
    refused(33, big, UNSUPPORTED, () -> big.times(8, 9));
    big.clear(9, 0, 0);
    big.set(9, 1, 1, -100);
    refused(33, big, UNSUPPORTED, () -> big.times(8, 9));
    big.matrix(1);
    refused(33, big, UNSUPPORTED, () -> big.times(8, 9));
    refused(33, big, UNSUPPORTED, () -> big.times(11, 9));
    refused(33, big, STATE, () -> big.times(0, 0));
    refused(32, big, STATE, () -> big.plus(8, 0));
    refused(32, big, UNSUPPORTED, () -> big.plus(8, 11));
    refused(32, big, INDEX, () -> big.plus(8, 12));
  }

  private static void stars() {
    MaxGarden g = withMatrix(row(N, 2, N, N), row(N, -1, 3, N), row(-6, N, N, N), row(N, N, 4, N));
    due(34, 1, () -> g.star(0));
    due(34, "0 2 5 .|-3 0 3 .|-6 -4 0 .|-2 0 4 0|", () -> entries(g, 1, 4));
    g.set(0, 2, 0, -5);
    due(34, 2, () -> g.star(0));
    g.set(0, 2, 0, -4);
    refused(34, g, UNSUPPORTED, () -> g.star(0));
    refused(34, g, INDEX, () -> g.star(3));
    refused(34, g, INDEX, () -> g.star(-1));
    due(34, 4, () -> g.matrix(2) + 1);
    due(34, 4, () -> g.star(3));
    due(34, "0 .|. 0|", () -> entries(g, 4, 2));
    g.set(3, 0, 0, 1);
    refused(34, g, UNSUPPORTED, () -> g.star(3));
    g.set(3, 0, 0, 0);
    for (int k = 5; k < 12; k++) {
      g.star(3);
    }
    refused(34, g, STATE, () -> g.star(3));
    refused(34, g, UNSUPPORTED, () -> g.star(0));
    refused(34, g, INDEX, () -> g.star(12));

    MaxGarden far = withMatrix(row(999, N, N), row(N, 999, N), row(N, N, 999));
    lay(far, row(N, 999, N), row(N, N, 999), row(N, N, N));
    for (int k = 0; k < 5; k++) {
      far.times(k == 0 ? 0 : k + 1, k == 0 ? 0 : k + 1);
    }
    due(34, 31968, () -> far.entry(6, 0, 0));
    due(34, 7, () -> far.times(6, 1));
    due(34, 8, () -> far.star(7));
    due(34, "0 32967 65934|. 0 32967|. . 0|", () -> entries(far, 8, 3));
    due(34, 9, () -> far.times(5, 7));
    due(34, 48951, () -> far.entry(9, 0, 1));
    due(34, 10, () -> far.star(9));
    due(34, 11, () -> far.times(3, 9));
    due(34, 52947, () -> far.entry(11, 0, 1));
    refused(34, far, UNSUPPORTED, () -> far.star(11));

    MaxGarden low = withMatrix(row(-999, N, N), row(N, -999, N), row(N, N, -999));
    lay(low, row(N, -999, N), row(N, N, -999), row(N, N, N));
    for (int k = 0; k < 5; k++) {
      low.times(k == 0 ? 0 : k + 1, k == 0 ? 0 : k + 1);
    }
    low.times(6, 1);
    low.times(5, 7);
    due(34, 9, () -> low.star(8));
    low.times(3, 8);
    refused(34, low, UNSUPPORTED, () -> low.star(10));
  }

  private static void means() {
    MaxGarden g = withMatrix(row(N, 2, N), row(N, 0, 3), row(-4, N, N));
    due(35, 1, () -> g.mean(0, false));
    due(35, 3, () -> g.mean(0, true));
    due(36, 1, () -> g.meanAnew(0, false));
    due(36, 3, () -> g.meanAnew(0, true));
    due(37, 7, () -> g.critical(0));
    due(54, 1.0 / 3.0, () -> g.meanOf(0));
    g.set(0, 1, 1, 1);
    due(35, 1, () -> g.mean(0, false));
    due(35, 1, () -> g.mean(0, true));
    due(37, 2, () -> g.critical(0));
    due(54, 1.0, () -> g.meanOf(0));
    g.clear(0, 1, 1);
    g.clear(0, 1, 2);
    refused(35, g, MISSING, () -> g.mean(0, false));
    refused(35, g, MISSING, () -> g.mean(0, true));
    refused(36, g, MISSING, () -> g.meanAnew(0, false));
    refused(36, g, MISSING, () -> g.meanAnew(0, true));
    refused(54, g, MISSING, () -> g.meanOf(0));
    due(37, 0, () -> g.critical(0));
    refused(35, g, INDEX, () -> g.mean(1, true));
    refused(36, g, INDEX, () -> g.meanAnew(-1, true));
    refused(37, g, INDEX, () -> g.critical(1));
    refused(54, g, INDEX, () -> g.meanOf(1));

    MaxGarden two = withMatrix(row(N, -7, N, N), row(2, N, N, N), row(N, N, N, 1), row(N, N, -6, -3));
    due(35, -5, () -> two.mean(0, false));
    due(35, 2, () -> two.mean(0, true));
    due(36, -5, () -> two.meanAnew(0, false));
    due(36, 2, () -> two.meanAnew(0, true));
    due(37, 15, () -> two.critical(0));
    due(54, -2.5, () -> two.meanOf(0));
    two.set(0, 3, 2, -7);
    due(37, 3, () -> two.critical(0));
    two.set(0, 3, 3, -2);
    due(37, 8, () -> two.critical(0));

    MaxGarden zero = withMatrix(row(N, 5), row(-5, N));
    due(35, 0, () -> zero.mean(0, false));
    due(35, 1, () -> zero.mean(0, true));
    due(36, 0, () -> zero.meanAnew(0, false));
    due(36, 1, () -> zero.meanAnew(0, true));
    due(54, 0.0, () -> zero.meanOf(0));

    MaxGarden six = new MaxGarden();
    six.matrix(6);
    int[] way = {0, 3, 1, 5, 2, 4};
    for (int k = 0; k < 6; k++) {
      six.set(0, way[k], way[(k + 1) % 6], k == 0 ? 1 : 0);
      six.set(0, k, k, -1);
    }
    due(35, 1, () -> six.mean(0, false));
    due(35, 6, () -> six.mean(0, true));
    due(36, 1, () -> six.meanAnew(0, false));
    due(36, 6, () -> six.meanAnew(0, true));
    due(37, 63, () -> six.critical(0));
    due(54, 1.0 / 6.0, () -> six.meanOf(0));
  }

  private static void eigenvectors() {
    MaxGarden g = withMatrix(row(N, 2, N), row(N, 0, 3), row(-4, N, N));
    due(38, 0, () -> g.eigen(0, 0));
    due(38, -5, () -> g.eigen(0, 1));
    due(38, -13, () -> g.eigen(0, 2));
    refused(38, g, ARGUMENT, () -> g.eigen(0, 3));
    refused(38, g, ARGUMENT, () -> g.eigen(0, -1));
    refused(38, g, INDEX, () -> g.eigen(1, 3));
    MaxGarden lower = withMatrix(row(-9, N, 4), row(1, 2, N), row(2, N, N));
    due(37, 5, () -> lower.critical(0));
    due(38, 0, () -> lower.eigen(0, 0));
    due(38, -2, () -> lower.eigen(0, 1));
    due(38, -1, () -> lower.eigen(0, 2));
    lower.clear(0, 1, 0);
    refused(38, lower, MISSING, () -> lower.eigen(0, 1));
    lower.set(0, 1, 1, 7);
    due(38, 0, () -> lower.eigen(0, 1));
    refused(38, lower, MISSING, () -> lower.eigen(0, 0));
    lower.clear(0, 1, 1);
    lower.clear(0, 0, 2);
    lower.clear(0, 0, 0);
    refused(38, lower, MISSING, () -> lower.eigen(0, 0));
    refused(38, lower, ARGUMENT, () -> lower.eigen(0, 3));
  }

  private static void assignments() {
    MaxGarden g = withMatrix(row(1, 5, 2), row(5, 1, 9), row(0, 4, N));
    due(39, 14, () -> g.assignment(0));
    due(40, 0, () -> g.assigned(0, 0));
    due(40, 2, () -> g.assigned(0, 1));
    due(40, 1, () -> g.assigned(0, 2));
    due(41, true, () -> g.isSingular(0));
    g.set(0, 0, 1, 6);
    due(39, 15, () -> g.assignment(0));
    due(40, 1, () -> g.assigned(0, 0));
    due(40, 2, () -> g.assigned(0, 1));
    due(40, 0, () -> g.assigned(0, 2));
    due(41, false, () -> g.isSingular(0));
    refused(40, g, ARGUMENT, () -> g.assigned(0, 3));
    refused(40, g, ARGUMENT, () -> g.assigned(0, -1));
    refused(40, g, INDEX, () -> g.assigned(2, 3));
    refused(39, g, INDEX, () -> g.assignment(2));
    refused(41, g, INDEX, () -> g.isSingular(-1));
    lay(g, row(0, 0), row(0, 0));
    due(41, true, () -> g.isSingular(1));
    due(41, false, () -> g.isSingular(0));
    due(41, true, () -> g.isSingular(1));
    due(39, 0, () -> g.assignment(1));
    due(39, 15, () -> g.assignment(0));
    g.clear(0, 2, 0);
    due(39, 14, () -> g.assignment(0));
    due(41, false, () -> g.isSingular(0));
    g.clear(0, 2, 1);
    refused(39, g, MISSING, () -> g.assignment(0));
    refused(40, g, MISSING, () -> g.assigned(0, 0));
    refused(40, g, ARGUMENT, () -> g.assigned(0, 3));
    due(41, true, () -> g.isSingular(0));

    MaxGarden flat = new MaxGarden();
    flat.matrix(6);
    for (int k = 0; k < 36; k++) {
      flat.set(0, k / 6, k % 6, -2);
    }
    due(39, -12, () -> flat.assignment(0));
    for (int k = 0; k < 6; k++) {
      int row = k;
      due(40, row, () -> flat.assigned(0, row));
    }
    due(41, true, () -> flat.isSingular(0));
    due(42, 1, () -> flat.rank(0));
    MaxGarden tie = withMatrix(row(0, 3, 3), row(2, 0, 0), row(N, 1, 1));
    due(40, 1, () -> tie.assigned(0, 0));
    due(40, 0, () -> tie.assigned(0, 1));
    due(40, 2, () -> tie.assigned(0, 2));
    due(41, true, () -> tie.isSingular(0));
    MaxGarden one = withMatrix(row(-999));
    due(39, -999, () -> one.assignment(0));
    due(41, false, () -> one.isSingular(0));
  }

  private static void ranks() {
    MaxGarden g = new MaxGarden();
    g.matrix(3);
    due(42, 0, () -> g.rank(0));
    g.set(0, 1, 2, -7);
    due(42, 1, () -> g.rank(0));
    g.set(0, 0, 2, 3);
    due(42, 1, () -> g.rank(0));
    g.set(0, 0, 0, 5);
    due(42, 2, () -> g.rank(0));
    g.set(0, 2, 1, 5);
    due(42, 3, () -> g.rank(0));
    refused(42, g, INDEX, () -> g.rank(1));
    refused(42, g, INDEX, () -> g.rank(-1));
    MaxGarden two = withMatrix(row(0, 0, 0), row(0, 1, 2), row(0, 1, 2));
    due(41, true, () -> two.isSingular(0));
    due(42, 2, () -> two.rank(0));
    MaxGarden six = new MaxGarden();
    six.matrix(6);
    for (int k = 0; k < 36; k++) {
      six.set(0, k / 6, k % 6, k / 6 * (k % 6));
    }
    due(42, 6, () -> six.rank(0));
    due(39, 55, () -> six.assignment(0));
    due(42, 1, () -> withMatrix(row(0)).rank(0));
  }

  private static void distances() {
    MaxGarden g = withMatrix(row(N, 3, 5, 6), row(N, N, 4, 5), row(N, N, N, 5), row(N, N, N, N));
    refused(43, g, MISSING, () -> g.unlike(0));
    g.set(0, 2, 3, 9);
    due(43, 123, () -> g.unlike(0));
    g.set(0, 2, 3, 3);
    refused(43, g, MISSING, () -> g.unlike(0));
    g.set(0, 0, 3, 7);
    due(43, 123, () -> g.unlike(0));
    g.set(0, 0, 2, 8);
    due(43, 123, () -> g.unlike(0));
    g.clear(0, 1, 3);
    refused(43, g, UNSUPPORTED, () -> g.unlike(0));
    refused(43, g, INDEX, () -> g.unlike(1));
    MaxGarden three = withMatrix(row(N, 3, 5), row(N, N, 4), row(N, N, N));
    refused(43, three, MISSING, () -> three.unlike(0));
    for (int k = 0; k < 3; k++) {
      int a = k / 2;
      int b = k / 2 + 1 + k % 2;
      due(30, 2, () -> three.clear(0, a, b));
      refused(43, three, UNSUPPORTED, () -> three.unlike(0));
      three.set(0, a, b, 4);
    }
    MaxGarden one = withMatrix(row(N));
    refused(43, one, MISSING, () -> one.unlike(0));
    MaxGarden six = new MaxGarden();
    six.matrix(6);
    for (int k = 0; k < 36; k++) {
      six.set(0, k / 6, k % 6, k / 6 < k % 6 ? 4 : k);
    }
    refused(43, six, MISSING, () -> six.unlike(0));
    six.set(0, 2, 5, 5);
    due(43, 125, () -> six.unlike(0));
    six.set(0, 0, 5, 5);
    due(43, 135, () -> six.unlike(0));
    six.set(0, 1, 5, 5);
    due(43, 345, () -> six.unlike(0));
    six.set(0, 3, 5, 5);
    refused(43, six, MISSING, () -> six.unlike(0));
    six.set(0, 4, 5, 7);
    due(43, 145, () -> six.unlike(0));
  }

  private static void hulls() {
    MaxGarden g = withMatrix(row(0, 2, N), row(1, N, N), row(3, 5, N));
    lay(g, row(5, N, 7), row(4, N, N), row(8, N, 10));
    lay(g, row(0, 0), row(0, 0));
    due(44, true, () -> g.isHeld(0, 1, 0));
    due(44, true, () -> g.isHeld(0, 1, 1));
    due(44, true, () -> g.isHeld(0, 1, 2));
    due(44, false, () -> g.isHeld(1, 0, 0));
    due(44, true, () -> g.isHeld(1, 0, 1));
    due(44, true, () -> g.isHeld(0, 0, 0));
    due(44, true, () -> g.isHeld(0, 0, 1));
    due(44, true, () -> g.isHeld(0, 0, 2));
    g.set(1, 2, 2, 11);
    due(44, false, () -> g.isHeld(0, 1, 2));
    g.set(1, 2, 0, 9);
    due(44, false, () -> g.isHeld(0, 1, 0));
    refused(44, g, ARGUMENT, () -> g.isHeld(0, 1, 3));
    refused(44, g, ARGUMENT, () -> g.isHeld(0, 1, -1));
    refused(44, g, UNSUPPORTED, () -> g.isHeld(0, 2, 3));
    refused(44, g, UNSUPPORTED, () -> g.isHeld(2, 0, 0));
    refused(44, g, INDEX, () -> g.isHeld(0, 3, 3));
    refused(44, g, INDEX, () -> g.isHeld(-1, 2, 3));
    MaxGarden empty = new MaxGarden();
    empty.matrix(2);
    due(44, true, () -> empty.isHeld(0, 0, 1));
    lay(empty, row(N, 3), row(N, N));
    due(44, true, () -> empty.isHeld(0, 1, 0));
    due(44, false, () -> empty.isHeld(0, 1, 1));
  }

  private static void timetables() {
    MaxGarden g = withMatrix(row(N, 2, N), row(N, 0, 3), row(-6, N, N));
    g.matrix(2);
    refused(46, g, STATE, () -> g.go(0));
    refused(47, g, STATE, () -> g.delay(9, 9999));
    refused(48, g, STATE, () -> g.time(9));
    refused(49, g, STATE, () -> g.late(0));
    refused(45, g, INDEX, () -> g.begin(2));
    refused(45, g, INDEX, () -> g.begin(-1));
    refused(46, g, STATE, () -> g.go(1));
    due(45, 3, () -> g.begin(0));
    due(48, 0, () -> g.time(2));
    due(46, 0, () -> g.go(1));
    due(48, 2, () -> g.time(0));
    due(48, 3, () -> g.time(1));
    due(48, -6, () -> g.time(2));
    g.set(0, 0, 0, 999);
    due(47, 10, () -> g.delay(1, 7));
    due(49, 7, () -> g.late(1));
    due(49, 0, () -> g.late(0));
    due(46, 2, () -> g.go(1));
    due(48, 12, () -> g.time(0));
    due(48, 10, () -> g.time(1));
    due(48, -4, () -> g.time(2));
    due(49, 7, () -> g.late(0));
    due(49, 7, () -> g.late(1));
    due(49, 0, () -> g.late(2));
    due(46, 3, () -> g.go(1));
    due(49, 7, () -> g.late(2));
    refused(46, g, ARGUMENT, () -> g.go(0));
    refused(46, g, ARGUMENT, () -> g.go(51));
    refused(46, g, ARGUMENT, () -> g.go(-5));
    refused(47, g, ARGUMENT, () -> g.delay(3, 1));
    refused(47, g, ARGUMENT, () -> g.delay(-1, 1));
    refused(47, g, ARGUMENT, () -> g.delay(0, 0));
    refused(47, g, ARGUMENT, () -> g.delay(0, 1000));
    refused(48, g, ARGUMENT, () -> g.time(3));
    refused(48, g, ARGUMENT, () -> g.time(-1));
    refused(49, g, ARGUMENT, () -> g.late(3));
    refused(49, g, ARGUMENT, () -> g.late(-1));
    due(47, 7, () -> g.late(0));
    refused(45, g, INDEX, () -> g.begin(2));
    due(45, 7, () -> g.late(0));
    due(45, 2, () -> g.begin(1));
    due(45, 0, () -> g.time(0));
    refused(45, g, ARGUMENT, () -> g.time(2));
    due(47, 1, () -> g.delay(0, 1));
    due(46, 1, () -> g.go(1));
    due(47, 1000, () -> g.delay(0, 999));
    due(46, 1, () -> g.go(50));
    due(48, 1000, () -> g.time(0));
    due(49, 1000, () -> g.late(0));
    due(45, 2, () -> g.begin(1));
    due(49, 0, () -> g.late(0));
    due(48, 0, () -> g.time(0));

    MaxGarden catching = withMatrix(row(10, 0), row(N, 1));
    catching.begin(0);
    catching.go(1);
    catching.delay(1, 3);
    due(46, 1, () -> catching.go(1));
    due(49, 0, () -> catching.late(0));
    due(49, 3, () -> catching.late(1));
    due(48, 20, () -> catching.time(0));
  }

  private static void farTimes() {
    MaxGarden g = withMatrix(row(999));
    g.begin(0);
    for (int k = 0; k < 20; k++) {
      g.go(50);
    }
    due(47, 999998, () -> g.delay(0, 998));
    due(47, 999998, () -> g.time(0));
    refused(47, g, UNSUPPORTED, () -> g.delay(0, 2));
    refused(47, g, ARGUMENT, () -> g.delay(0, 1000));
    due(47, 999999, () -> g.delay(0, 1));
    refused(47, g, UNSUPPORTED, () -> g.delay(0, 1));
    refused(46, g, UNSUPPORTED, () -> g.go(1));
    refused(46, g, UNSUPPORTED, () -> g.go(2));
    due(46, 999999, () -> g.time(0));
    due(46, 999, () -> g.late(0));

    MaxGarden low = withMatrix(row(N, 1), row(N, -999));
    lay(low, row(999, N), row(N, N));
    for (int k = 0; k < 6; k++) {
      low.times(k == 0 ? 0 : k + 1, k == 0 ? 0 : k + 1);
    }
    due(33, -63936, () -> low.entry(7, 1, 1));
    low.begin(7);
    due(46, 0, () -> low.go(15));
    due(48, -15 * 63936, () -> low.time(1));
    refused(46, low, UNSUPPORTED, () -> low.go(1));
    low.delay(1, 999);
    for (int k = 0; k < 70; k++) {
      low.delay(1, 999);
    }
    due(47, 71 * 999, () -> low.late(1));
    refused(46, low, UNSUPPORTED, () -> low.go(1));
    due(48, -15 * 63936 + 71 * 999, () -> low.time(1));

    MaxGarden edge = withMatrix(row(999));
    lay(edge, row(-999));
    edge.begin(0);
    for (int k = 0; k < 20; k++) {
      edge.go(50);
    }
    due(46, 0, () -> edge.go(1));
    due(48, 999999, () -> edge.time(0));
    refused(46, edge, UNSUPPORTED, () -> edge.go(1));
    edge.begin(1);
    for (int k = 0; k < 20; k++) {
      edge.go(50);
    }
    due(46, 0, () -> edge.go(1));
    due(48, -999999, () -> edge.time(0));
    refused(46, edge, UNSUPPORTED, () -> edge.go(1));
    refused(46, edge, ARGUMENT, () -> edge.go(51));
  }

  private static void writing() {
    MaxGarden g = withPoly(t(0, 0, -999), t(0, 2, 10), t(3, 1, -7), t(3, 0, 100), t(1, 2, 0));
    due(50, "-7xxxy+100xxx+0xyy+10yy+-999", () -> written(g, 0));
    due(50, 28, () -> g.write(0));
    due(51, '-', () -> g.sign(0));
    due(51, 'y', () -> g.sign(5));
    due(51, '9', () -> g.sign(27));
    refused(51, g, MISSING, () -> g.sign(28));
    refused(51, g, MISSING, () -> g.sign(-1));
    refused(51, g, MISSING, () -> g.sign(Integer.MAX_VALUE));
    refused(50, g, INDEX, () -> g.write(1));
    refused(50, g, INDEX, () -> g.write(-1));
    due(50, '9', () -> g.sign(27));
    g.drop(0, 0, 0);
    due(51, '9', () -> g.sign(27));
    g.poly();
    due(50, 0, () -> g.write(1));
    refused(51, g, MISSING, () -> g.sign(0));
    g.term(1, 0, 0, 0);
    due(50, "0", () -> written(g, 1));
    g.term(1, 8, 8, 999);
    due(50, "999xxxxxxxxyyyyyyyy+0", () -> written(g, 1));
    refused(51, g, MISSING, () -> g.sign(21));
  }

  private static void prints() {
    MaxGarden g = new MaxGarden();
    due(52, 7L, () -> g.print());
    g.poly();
    due(52, 7L * 31, () -> g.print());
    g.term(0, 1, 0, 5);
    due(52, (7L * 31 + 5) * 31, () -> g.print());
    g.term(0, 0, 2, -3);
    due(52, ((7L * 31 - 3) * 31 + 5) * 31, () -> g.print());
    g.poly();
    long polys = ((7L * 31 - 3) * 31 + 5) * 31 * 31;
    due(52, polys, () -> g.print());
    g.matrix(1);
    due(52, (polys * 31 + 1) * 31, () -> g.print());
    g.set(0, 0, 0, -4);
    due(52, (polys * 31 - 8) * 31, () -> g.print());
    g.matrix(2);
    g.set(1, 0, 1, 6);
    g.set(1, 1, 0, 9);
    long first = (polys * 31 - 8) * 31;
    due(52, ((((first * 31 + 1) * 31 + 12) * 31 + 18) * 31 + 1) * 31, () -> g.print());
    g.term(1, 0, 0, 1);
    due(52, false, () -> g.print() == ((((first * 31 + 1) * 31 + 12) * 31 + 18) * 31 + 1) * 31);
  }

  private static void figures() {
    MaxGarden g = withPoly(t(0, 0, 4), t(2, 0, 5), t(1, 0, 1), t(5, 0, 0));
    due(53, 0.75f, () -> g.neededShare(0));
    g.term(0, 3, 0, -9);
    g.term(0, 4, 0, -9);
    g.term(0, 1, 1, -9);
    due(53, 4f / 7f, () -> g.neededShare(0));
    due(53, 1.0f, () -> withPoly(t(2, 2, 2)).neededShare(0));
    g.poly();
    refused(53, g, ARITHMETIC, () -> g.neededShare(1));
    refused(53, g, INDEX, () -> g.neededShare(2));
    refused(53, g, INDEX, () -> g.neededShare(-1));
    due(54, -999.0, () -> withMatrix(row(-999)).meanOf(0));
    due(54, 2.0 / 3.0, () -> withMatrix(row(N, 1, N), row(N, N, 1), row(0, N, N)).meanOf(0));
  }

  private static void sound() {
    MaxGarden g = withPoly(t(0, 0, 4), t(2, 0, 5), t(1, 0, 1), t(5, 0, 0));
    due(55, true, () -> g.isSound());
    add(g, t(0, 0, 0), t(1, 0, 1), t(0, 1, 1), t(1, 1, 1), t(2, 0, 0), t(0, 2, 0));
    add(g, t(1, 1, 1));
    g.poly();
    lay(g, row(N, 2, N), row(N, 0, 3), row(-4, N, N));
    lay(g, row(5, N), row(1, 2));
    g.matrix(6);
    due(55, true, () -> g.isSound());
    g.product(0, 1);
    g.begin(0);
    long print = g.print();
    due(55, true, () -> g.isSound());
    due(55, print, () -> g.print());
    due(55, 0, () -> g.time(0));
  }
}
