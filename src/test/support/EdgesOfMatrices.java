/** The sentences on matrices, cycles, assignments, ranks, distances and hulls: promises 28 to 44. */
final class EdgesOfMatrices extends Edges {
  private static final String MATRIX = "`matrix`: the number of the matrix";
  private static final String ROW = "`row`: the row";
  private static final String COLUMN = "`column`: the column";
  private static final String ONE = "`one`: the number of a matrix";
  private static final String OR_THE_SAME = "`other`: that of another one, or the same";
  private static final String EITHER = "Throws `IndexOutOfBoundsException` if there is no such matrix, for either";
  private static final String NO_PLACE = "Throws `IllegalArgumentException` if there is no such place";
  private static final String NO_ROW = "Throws `IllegalArgumentException` if there is no such row";
  private static final String NO_CYCLE = "Throws `NoSuchElementException` if there is no cycle";
  private static final String FULL = "Throws `IllegalStateException` if there are 12";
  private static final String[] TWO = {"-1 0", "-2 -3"};
  private static final String[] LOOP = {". 2 .", ". 0 3", "-4 . ."};
  private static final String[] UPPER = {". 1 2", ". . 3", ". . ."};
  private static final String[] FAR_APART = {". 3 5 6", ". . 4 5", ". . . 9", ". . . ."};

  static void run() {
    matrix();
    set();
    clear();
    entry();
    plus();
    times();
    star();
    mean("mean", 35);
    mean("meanAnew", 36);
    critical();
    eigen();
    assignment();
    assigned();
    isSingular();
    rank();
    unlike();
    isHeld();
    numberWords();
    wayWords();
    assignmentWords();
  }

  private static String[] empty(int rows) {
    String[] lines = new String[rows];
    for (int row = 0; row < rows; row++) {
      lines[row] = ". ".repeat(rows).trim();
    }
    return lines;
  }

  /** Six rows with the same entry at all places. */
  private static String[] even(int entry) {
    String[] lines = new String[6];
    for (int row = 0; row < 6; row++) {
      lines[row] = (entry + " ").repeat(6).trim();
    }
    return lines;
  }

  private static Bench garden(String... lines) {
    return new Bench().matrix(lines);
  }

  private static void matrix() {
    promise(28, "Makes a matrix with nothing at all places.");
    new Bench().make("matrix(6)").entries(0, String.join("|", empty(6))).make("matrix(2)").entries(1, ". .|. .")
        .due(0, "rank(0)").due(0, "critical(1)");
    promise(28, "`rows`: 1 to 6");
    for (int rows = 1; rows <= 6; rows++) {
      int last = rows - 1;
      new Bench().due(0, "matrix(" + rows + ")").due(1, "set(0, " + last + ", " + last + ", 5)")
          .refused(ARGUMENT, "set(0, 0, " + rows + ", 5)").refused(ARGUMENT, "set(0, " + rows + ", 0, 5)")
          .due(rows, "begin(0)");
    }
    new Bench().outside(ARGUMENT, "matrix(@)", 1, 6).due(0, "matrix(1)");
    promise(28, "Returns its number.");
    new Bench().due(0, "matrix(2)").due(1, "plus(0, 0)").due(2, "times(0, 0)").due(3, "star(0)").due(4, "matrix(6)")
        .makeTimes(3, "poly()").due(5, "matrix(1)");
    promise(28, "Throws `IllegalArgumentException` if the number is out of range");
    new Bench().refused(ARGUMENT, "matrix(@)", 0, 7, -6).makeTimes(12, "matrix(1)").refused(ARGUMENT, "matrix(@)", 0, 7)
        .outside(ARGUMENT, "matrix(@)", 1, 6);
    promise(28, FULL);
    Bench garden = new Bench();
    for (int number = 0; number < 12; number++) {
      garden.due(number, "matrix(" + (number % 6 + 1) + ")");
    }
    garden.refused(STATE, "matrix(@)", 1, 2, 3, 4, 5, 6).due(6, "begin(11)");
    new Bench().makeTimes(9, "matrix(1)").make("plus(0, 0)", "times(0, 0)", "star(0)").refused(STATE, "matrix(1)");
    new Bench().makeTimes(10, "poly()").due(0, "matrix(1)");
  }

  private static void set() {
    promise(29, "Sets an entry.");
    garden(". .", ". .").due(1, "set(0, 0, 1, 7)").due(7, "entry(0, 0, 1)").refused(MISSING, "entry(0, 1, 0)")
        .due(1, "set(0, 0, 1, -8)").due(-8, "entry(0, 0, 1)").due(1, "set(0, 0, 1, -9)").entries(0, ". -9|. .");
    matrixNumbers(29, MATRIX, "set(@, 1, 1, 5)", TWO);
    promise(29, ROW);
    new Bench().make("matrix(6)", "matrix(3)", "matrix(1)").due(1, "set(0, 0, 2, 1)").due(2, "set(0, 5, 2, 2)")
        .outside(ARGUMENT, "set(0, @, 2, 1)", 0, 5).outside(ARGUMENT, "set(1, @, 2, 1)", 0, 2)
        .outside(ARGUMENT, "set(2, @, 0, 1)", 0, 0).due(1, "entry(0, 0, 2)").due(2, "entry(0, 5, 2)");
    promise(29, COLUMN);
    new Bench().make("matrix(6)", "matrix(3)", "matrix(1)").due(1, "set(0, 2, 0, 1)").due(2, "set(0, 2, 5, 2)")
        .outside(ARGUMENT, "set(0, 2, @, 1)", 0, 5).outside(ARGUMENT, "set(1, 2, @, 1)", 0, 2)
        .outside(ARGUMENT, "set(2, 0, @, 1)", 0, 0).due(1, "entry(0, 2, 0)").due(2, "entry(0, 2, 5)");
    promise(29, "`entry`: the entry, -999 to 999");
    garden(". .", ". .").due(1, "set(0, 0, 0, -999)").due(2, "set(0, 1, 1, 999)").due(-999, "entry(0, 0, 0)")
        .due(999, "entry(0, 1, 1)").outside(ARGUMENT, "set(0, 0, 0, @)", -999, 999)
        .outside(ARGUMENT, "set(0, 0, 1, @)", -999, 999);
    promise(29, "Returns how many entries there are.");
    Bench full = new Bench().make("matrix(6)", "matrix(6)");
    for (int place = 0; place < 36; place++) {
      full.due(place + 1, "set(0, " + place / 6 + ", " + place % 6 + ", 0)");
    }
    full.due(36, "set(0, 5, 5, 1)").due(1, "set(1, 5, 5, 1)").due(35, "clear(0, 0, 0)").due(35, "set(0, 1, 0, 9)")
        .due(36, "set(0, 0, 0, -9)");
    promise(29, "Throws `IllegalArgumentException` if there is no such place, or the entry is out of range");
    garden(". .", ". .").refused(ARGUMENT, "set(0, 2, 2, 1000)").refused(ARGUMENT, "set(0, -1, 2, 0)")
        .refused(ARGUMENT, "set(0, 2, -1, 0)").refused(ARGUMENT, "set(0, 1, -1, 0)").refused(ARGUMENT, "set(0, 0, 2, 0)")
        .refused(ARGUMENT, "set(0, 1, 1, 1000)").refused(ARGUMENT, "set(0, 1, 1, -1000)")
        .refused(INDEX, "set(1, 2, 0, 0)").refused(INDEX, "set(1, 0, 2, 0)").refused(INDEX, "set(-1, 0, 0, 1000)")
        .due(1, "set(0, 1, 1, 0)");
  }

  private static void clear() {
    promise(30, "Takes an entry away.");
    garden("1 2", "3 4").due(3, "clear(0, 0, 1)").entries(0, "1 .|3 4").refused(MISSING, "entry(0, 0, 1)")
        .due(4, "set(0, 0, 1, -5)").entries(0, "1 -5|3 4");
    matrixNumbers(30, MATRIX, "clear(@, 1, 1)", TWO);
    promise(30, ROW);
    new Bench().matrix(even(1)).matrix(". . .", ". . .", ". . .").due(35, "clear(0, 0, 2)").due(34, "clear(0, 5, 2)")
        .outside(ARGUMENT, "clear(0, @, 2)", 0, 5).outside(ARGUMENT, "clear(1, @, 2)", 0, 2);
    promise(30, COLUMN);
    new Bench().matrix(even(1)).matrix(". . .", ". . .", ". . .").due(35, "clear(0, 2, 0)").due(34, "clear(0, 2, 5)")
        .outside(ARGUMENT, "clear(0, 2, @)", 0, 5).outside(ARGUMENT, "clear(1, 2, @)", 0, 2);
    promise(30, "Returns how many there are.");
    garden("1 .", "2 .").due(2, "clear(0, 0, 1)").due(1, "clear(0, 0, 0)").due(1, "clear(0, 0, 0)")
        .due(0, "clear(0, 1, 0)").due(0, "clear(0, 1, 0)").due(0, "clear(0, 1, 1)");
    promise(30, NO_PLACE);
    garden("1 2", "3 4").refused(ARGUMENT, "clear(0, 2, 2)").refused(ARGUMENT, "clear(0, 0, 2)")
        .refused(ARGUMENT, "clear(0, 1, -1)").refused(ARGUMENT, "clear(0, -1, 2)").refused(INDEX, "clear(1, 2, 2)")
        .refused(INDEX, "clear(-1, -1, 0)").due(3, "clear(0, 1, 1)");
  }

  private static void entry() {
    promise(31, "Returns an entry.");
    garden("1 .", "-3 4").due(1, "entry(0, 0, 0)").due(-3, "entry(0, 1, 0)").due(4, "entry(0, 1, 1)");
    matrixNumbers(31, MATRIX, "entry(@, 1, 1)", TWO);
    promise(31, ROW);
    new Bench().matrix(even(1)).matrix("2 2 2", "2 2 2", "2 2 2").due(1, "entry(0, 0, 2)").due(1, "entry(0, 5, 2)")
        .outside(ARGUMENT, "entry(0, @, 2)", 0, 5).outside(ARGUMENT, "entry(1, @, 2)", 0, 2);
    promise(31, COLUMN);
    new Bench().matrix(even(1)).matrix("2 2 2", "2 2 2", "2 2 2").due(1, "entry(0, 2, 0)").due(1, "entry(0, 2, 5)")
        .outside(ARGUMENT, "entry(0, 2, @)", 0, 5).outside(ARGUMENT, "entry(1, 2, @)", 0, 2);
    promise(31, "Returns the entry.");
    garden("-999 999", "0 .").due(-999, "entry(0, 0, 0)").due(999, "entry(0, 0, 1)").due(0, "entry(0, 1, 0)");
    promise(31, NO_PLACE);
    garden("1 2", "3 .").refused(ARGUMENT, "entry(0, 2, 0)").refused(ARGUMENT, "entry(0, 0, 2)")
        .refused(ARGUMENT, "entry(0, 1, 2)").refused(ARGUMENT, "entry(0, 1, -1)").refused(ARGUMENT, "entry(0, -1, 1)")
        .refused(INDEX, "entry(1, 2, 0)").refused(INDEX, "entry(-1, 1, 1)");
    garden(".").refused(ARGUMENT, "entry(0, 0, 1)").refused(ARGUMENT, "entry(0, 1, 0)");
    promise(31, "Throws `NoSuchElementException` if there is none");
    garden("0 .", ". 0").refused(MISSING, "entry(0, 0, 1)").refused(MISSING, "entry(0, 1, 0)").due(0, "entry(0, 0, 0)")
        .make("clear(0, 0, 0)").refused(MISSING, "entry(0, 0, 0)").make("set(0, 0, 0, 0)").due(0, "entry(0, 0, 0)")
        .refused(INDEX, "entry(1, 0, 1)");
  }

  private static void plus() {
    promise(32, "Makes the sum of two matrices.");
    garden("1 .", "-5 .").matrix("2 -4", "-6 .").make("plus(0, 1)").entries(2, "2 -4|-5 .").make("plus(1, 0)")
        .entries(3, "2 -4|-5 .").entries(0, "1 .|-5 .").make("set(0, 0, 0, 9)").entries(2, "2 -4|-5 .");
    matrixNumbers(32, ONE, "plus(@, 0)", TWO);
    matrixNumbers(32, OR_THE_SAME, "plus(0, @)", TWO);
    garden("1 .", ". -999").make("plus(0, 0)").entries(1, "1 .|. -999").make("clear(1, 0, 0)").due(1, "entry(0, 0, 0)");
    promise(32, "Returns its number.");
    garden(".").due(1, "plus(0, 0)").due(2, "plus(1, 0)").due(3, "matrix(1)").due(4, "plus(2, 3)");
    promise(32, EITHER);
    garden("1").refused(INDEX, "plus(0, 1)").refused(INDEX, "plus(1, 0)").refused(INDEX, "plus(-1, -1)")
        .matrix("1 1", "1 1").refused(INDEX, "plus(1, 2)").refused(INDEX, "plus(2, 0)");
    promise(32, "Throws `UnsupportedOperationException` if they have unlike numbers of rows");
    unlikeRows("plus");
    promise(32, FULL);
    fullOfMatrices("plus");
  }

  private static void unlikeRows(String name) {
    new Bench().make("matrix(1)", "matrix(2)", "matrix(6)", "matrix(5)", "matrix(2)")
        .refused(UNSUPPORTED, name + "(0, 1)").refused(UNSUPPORTED, name + "(1, 0)")
        .refused(UNSUPPORTED, name + "(2, 3)").refused(UNSUPPORTED, name + "(3, 2)")
        .refused(INDEX, name + "(0, 5)").refused(INDEX, name + "(5, 0)").refused(INDEX, name + "(-1, 2)")
        .due(5, name + "(1, 4)").due(6, name + "(4, 1)").due(7, name + "(2, 2)");
  }

  private static void fullOfMatrices(String name) {
    new Bench().makeTimes(10, "matrix(2)").make("matrix(3)").due(11, name + "(0, 9)").refused(STATE, name + "(0, 9)")
        .refused(STATE, name + "(10, 10)").refused(STATE, name + "(11, 0)").refused(UNSUPPORTED, name + "(0, 10)")
        .refused(UNSUPPORTED, name + "(10, 0)").refused(INDEX, name + "(0, 12)").refused(INDEX, name + "(12, 12)")
        .refused(INDEX, name + "(-1, 10)");
  }

  /** Matrices of one row: 64, 96 and 100 times an entry of 999 or -999, with a last matrix 9 to add to it. */
  private static Bench hundredTimes(int entry, int last) {
    Bench made = garden("" + entry);
    for (int number = 0; number < 6; number++) {
      made.make("times(" + number + ", " + number + ")");
    }
    return made.due(64 * entry, "entry(6, 0, 0)").make("times(6, 5)", "times(7, 2)").due(100 * entry, "entry(8, 0, 0)")
        .matrix("" + last);
  }

  private static void times() {
    promise(33, "Makes the product of two matrices.");
    garden("1 .", "-5 3").matrix("2 -4", ". 7").make("times(0, 1)").entries(2, "3 -3|-3 10").make("times(1, 0)")
        .entries(3, "3 -1|2 10").entries(0, "1 .|-5 3").make("set(0, 0, 0, 9)").entries(2, "3 -3|-3 10");
    matrixNumbers(33, ONE, "times(@, 0)", TWO);
    matrixNumbers(33, OR_THE_SAME, "times(0, @)", TWO);
    garden(". 1", "2 .").make("times(0, 0)").entries(1, "3 .|. 3");
    promise(33, "Returns its number.");
    garden(".").due(1, "times(0, 0)").due(2, "times(1, 0)").due(3, "matrix(1)").due(4, "times(2, 3)");
    promise(33, EITHER);
    garden("1").refused(INDEX, "times(0, 1)").refused(INDEX, "times(1, 0)").refused(INDEX, "times(-1, -1)")
        .matrix("1 1", "1 1").refused(INDEX, "times(1, 2)").refused(INDEX, "times(2, 0)");
    promise(33, "Throws `UnsupportedOperationException` if they have unlike numbers of rows, or an entry would not be "
        + "-99999 to 99999");
    unlikeRows("times");
    hundredTimes(999, 99).due(10, "times(8, 9)").due(99999, "entry(10, 0, 0)").make("set(9, 0, 0, 100)")
        .refused(UNSUPPORTED, "times(8, 9)").refused(UNSUPPORTED, "times(9, 8)").refused(UNSUPPORTED, "times(10, 10)")
        .make("set(9, 0, 0, -999)").due(11, "times(10, 9)").due(99000, "entry(11, 0, 0)");
    hundredTimes(-999, -99).due(10, "times(8, 9)").due(-99999, "entry(10, 0, 0)").make("set(9, 0, 0, -100)")
        .refused(UNSUPPORTED, "times(8, 9)").refused(UNSUPPORTED, "times(9, 8)").refused(UNSUPPORTED, "times(10, 10)")
        .make("set(9, 0, 0, 999)").due(11, "times(10, 9)").due(-99000, "entry(11, 0, 0)");
    promise(33, FULL);
    fullOfMatrices("times");
    hundredTimes(999, 100).make("matrix(1)", "matrix(1)").refused(UNSUPPORTED, "times(8, 9)")
        .refused(STATE, "times(5, 6)").refused(STATE, "times(8, 10)").refused(INDEX, "times(8, 12)");
    hundredTimes(-999, -100).make("matrix(1)", "matrix(2)").refused(UNSUPPORTED, "times(9, 8)")
        .refused(UNSUPPORTED, "times(9, 11)").refused(STATE, "times(6, 5)").refused(INDEX, "times(-1, 11)");
  }

  /** A way of two entries, 49950 or -49950 and something more each, in the matrix 9. */
  private static Bench longWay(int entry, int first, int second) {
    Bench made = garden(entry + " . .", ". " + entry + " .", ". . " + entry);
    for (int number = 0; number < 5; number++) {
      made.make("times(" + number + ", " + number + ")");
    }
    return made.make("times(5, 4)", "times(6, 1)").matrix(". " + first + " .", ". . " + second, ". . .")
        .make("times(7, 8)").due(50 * entry + first, "entry(9, 0, 1)").due(50 * entry + second, "entry(9, 1, 2)");
  }

  private static void star() {
    promise(34, "Makes the star of a matrix.");
    garden(". 2 . .", ". -1 3 .", "-6 . . .", ". . 4 .").due(1, "star(0)")
        .entries(1, "0 2 5 .|-3 0 3 .|-6 -4 0 .|-2 0 4 0").make("set(0, 0, 1, -9)")
        .entries(1, "0 2 5 .|-3 0 3 .|-6 -4 0 .|-2 0 4 0");
    matrixNumbers(34, MATRIX, "star(@)", TWO);
    promise(34, "Returns its number.");
    garden(".").due(1, "star(0)").due(2, "star(1)").due(3, "matrix(1)").due(4, "star(3)");
    promise(34, "Throws `UnsupportedOperationException` if a cycle has a weight above 0, or an entry would not be "
        + "-99999 to 99999");
    garden("0 . .", ". . 4", ". -4 .").due(1, "star(0)").entries(1, "0 . .|. 0 4|. -4 0").make("set(0, 1, 2, 5)")
        .refused(UNSUPPORTED, "star(0)").make("clear(0, 2, 1)").due(2, "star(0)").make("set(0, 0, 0, 1)")
        .refused(UNSUPPORTED, "star(0)").make("set(0, 0, 0, -999)").due(3, "star(0)").entries(3, "0 . .|. 0 5|. . 0")
        .refused(INDEX, "star(4)");
    garden(". 999 . . . .", ". . -999 . . .", ". . . 500 . .", ". . . . -500 .", ". . . . . 7", "-7 . . . . .")
        .due(1, "star(0)").make("set(0, 5, 0, -6)").refused(UNSUPPORTED, "star(0)");
    garden("999").refused(UNSUPPORTED, "star(0)");
    longWay(999, 50, 49).due(10, "star(9)").entries(10, "0 50000 99999|. 0 49999|. . 0");
    longWay(999, 50, 50).refused(UNSUPPORTED, "star(9)").due(10, "matrix(1)");
    longWay(-999, -50, -49).due(10, "star(9)").entries(10, "0 -50000 -99999|. 0 -49999|. . 0");
    longWay(-999, -50, -50).refused(UNSUPPORTED, "star(9)").make("set(9, 0, 2, -999)").due(10, "star(9)")
        .entries(10, "0 -50000 -999|. 0 -50000|. . 0");
    promise(34, FULL);
    garden("0").matrix("1").makeTimes(9, "matrix(2)").due(11, "star(0)").refused(STATE, "star(0)")
        .refused(STATE, "star(11)").refused(UNSUPPORTED, "star(1)").refused(INDEX, "star(12)")
        .refused(INDEX, "star(-1)");
    longWay(999, 50, 50).make("matrix(1)", "matrix(1)").refused(UNSUPPORTED, "star(9)").refused(STATE, "star(10)");
  }

  private static void mean(String name, int number) {
    String upper = name + "(0, false)";
    String lower = name + "(0, true)";
    promise(number, name.equals("mean") ? "Returns the greatest mean of a cycle, in lowest terms, the lower number above 0."
        : "Returns the same by trying all cycles that come to no row twice.");
    garden(LOOP).due(1, upper).due(3, lower).make("set(0, 1, 1, 1)").due(1, upper).due(1, lower);
    garden(". 2", "4 .").due(3, upper).due(1, lower).make("set(0, 0, 1, 1)").due(5, upper).due(2, lower)
        .make("set(0, 0, 1, -9)").due(-5, upper).due(2, lower).make("set(0, 0, 1, -4)").due(0, upper).due(1, lower);
    matrixNumbers(number, MATRIX, name + "(@, false)", TWO);
    matrixNumbers(number, MATRIX, name + "(@, true)", TWO);
    promise(number, "`isLower`: whether the lower number is meant");
    garden(". 1 .", ". . 0", "0 . .").due(1, upper).due(3, lower);
    promise(number, "Returns the number.");
    garden("999").due(999, upper).due(1, lower).make("set(0, 0, 0, -999)").due(-999, upper).due(1, lower);
    garden(". 999 . . . .", ". . 999 . . .", ". . . 999 . .", ". . . . 999 .", ". . . . . 999", "998 . . . . .")
        .due(5993, upper).due(6, lower).make("set(0, 3, 3, 998)").due(5993, upper).make("set(0, 3, 3, 999)")
        .due(999, upper).due(1, lower);
    garden(even(-999)).due(-999, upper).due(1, lower);
    promise(number, NO_CYCLE);
    for (String[] each : new String[][] {{"."}, empty(6), UPPER, {". .", "5 ."}}) {
      garden(each).refused(MISSING, upper).refused(MISSING, lower).refused(INDEX, name + "(1, true)")
          .refused(INDEX, name + "(-1, false)");
    }
    garden(UPPER).make("set(0, 2, 0, -999)").due(-995, upper).due(3, lower);
  }

  private static void critical() {
    promise(37, "Returns the critical rows.");
    garden(LOOP).due(7, "critical(0)").make("set(0, 1, 1, 1)").due(2, "critical(0)");
    matrixNumbers(37, MATRIX, "critical(@)", TWO);
    promise(37, "Returns bits, the lowest one for the row 0.");
    Bench six = new Bench().make("matrix(6)").due(0, "critical(0)");
    for (int row = 0; row < 6; row++) {
      six.make("set(0, " + row + ", " + row + ", " + (row - 9) + ")").due(1 << row, "critical(0)");
    }
    for (int row = 4; row >= 0; row--) {
      six.make("set(0, " + row + ", " + row + ", -4)").due(64 - (1 << row), "critical(0)");
    }
    garden(UPPER).due(0, "critical(0)");
    garden(".").due(0, "critical(0)").make("set(0, 0, 0, -999)").due(1, "critical(0)");
    garden(even(7)).due(63, "critical(0)");
  }

  private static void eigen() {
    promise(38, "Returns an entry of the eigenvector.");
    garden(LOOP).dueAll("eigen(0, @)", 0, -5, -13);
    matrixNumbers(38, MATRIX, "eigen(@, 0)", TWO);
    promise(38, ROW);
    garden(LOOP).outside(ARGUMENT, "eigen(0, @)", 0, 2);
    garden(even(3)).dueAll("eigen(0, @)", 0, 0, 0, 0, 0, 0).outside(ARGUMENT, "eigen(0, @)", 0, 5);
    garden("-999").due(0, "eigen(0, 0)").outside(ARGUMENT, "eigen(0, @)", 0, 0);
    promise(38, "Returns the entry.");
    garden(". 999 .", "999 . .", ". -999 .").dueAll("eigen(0, @)", 0, 0, -1998);
    garden("-999 999", ". -999").dueAll("eigen(0, @)", 0).refused(MISSING, "eigen(0, 1)");
    garden(". -999 . . . .", ". . -999 . . .", ". . . -999 . .", ". . . . -999 .", ". . . . . 999", "998 . . . . .")
        .dueAll("eigen(0, @)", 0, 3995, 7990, 11985, 15980, 7987);
    promise(38, NO_ROW);
    garden(UPPER).refused(ARGUMENT, "eigen(0, 3)").refused(ARGUMENT, "eigen(0, -1)").refused(INDEX, "eigen(1, 3)")
        .refused(INDEX, "eigen(-1, 0)");
    garden(".").refused(ARGUMENT, "eigen(0, 1)").refused(MISSING, "eigen(0, 0)");
    promise(38, "Throws `NoSuchElementException` if there is no cycle, or no such entry");
    garden(UPPER).refused(MISSING, "eigen(0, @)", 0, 1, 2).make("set(0, 1, 1, -999)").due(0, "eigen(0, 1)")
        .due(1000, "eigen(0, 0)").refused(MISSING, "eigen(0, 2)").refused(ARGUMENT, "eigen(0, 3)")
        .make("set(0, 0, 0, -999)").due(0, "eigen(0, 0)").refused(MISSING, "eigen(0, @)", 1, 2).make("set(0, 1, 1, 0)")
        .due(1, "eigen(0, 0)").due(0, "eigen(0, 1)").refused(MISSING, "eigen(0, 2)");
  }

  private static void assignment() {
    promise(39, "Returns the greatest weight of an assignment.");
    garden("1 5 2", "5 1 9", "0 4 .").due(14, "assignment(0)");
    matrixNumbers(39, MATRIX, "assignment(@)", TWO);
    promise(39, "Returns the weight.");
    garden("-999").due(-999, "assignment(0)").make("set(0, 0, 0, 999)").due(999, "assignment(0)");
    garden(even(999)).due(5994, "assignment(0)");
    garden(even(-999)).due(-5994, "assignment(0)");
    garden("0 .", ". 0").due(0, "assignment(0)").make("set(0, 0, 1, 999)").due(0, "assignment(0)");
    promise(39, "Throws `NoSuchElementException` if there is none");
    garden(".").refused(MISSING, "assignment(0)").refused(INDEX, "assignment(1)").refused(INDEX, "assignment(-1)")
        .make("set(0, 0, 0, 0)").due(0, "assignment(0)");
    garden("9 . .", "9 . .", "9 9 9").refused(MISSING, "assignment(0)").make("set(0, 1, 1, -999)")
        .due(-981, "assignment(0)").make("clear(0, 0, 0)").refused(MISSING, "assignment(0)");
    garden("9 9 .", "9 9 .", "9 9 .").refused(MISSING, "assignment(0)");
    garden(empty(6)).refused(MISSING, "assignment(0)");
  }

  private static void assigned() {
    promise(40, "Returns which column a row has by it, of several assignments the first one by the columns of lower rows.");
    garden("1 5 2", "5 1 9", "0 4 .").due(true, "isSingular(0)").dueAll("assigned(0, @)", 0, 2, 1);
    garden("0 3 3", "2 0 0", ". 1 1").due(true, "isSingular(0)").dueAll("assigned(0, @)", 1, 0, 2);
    garden("0 0 0", "0 0 1", "0 0 0").due(true, "isSingular(0)").dueAll("assigned(0, @)", 0, 2, 1);
    garden(even(-7)).dueAll("assigned(0, @)", 0, 1, 2, 3, 4, 5);
    matrixNumbers(40, MATRIX, "assigned(@, 0)", TWO);
    promise(40, ROW);
    garden(even(0)).outside(ARGUMENT, "assigned(0, @)", 0, 5);
    garden("1 5 2", "5 1 9", "0 4 .").outside(ARGUMENT, "assigned(0, @)", 0, 2);
    garden("0").due(0, "assigned(0, 0)").outside(ARGUMENT, "assigned(0, @)", 0, 0);
    promise(40, "Returns the column.");
    garden(". . . . . 1", ". . . . 1 .", ". . . 1 . .", ". . 1 . . .", ". 1 . . . .", "1 . . . . .")
        .dueAll("assigned(0, @)", 5, 4, 3, 2, 1, 0);
    promise(40, NO_ROW);
    garden("1 .", "2 .").refused(ARGUMENT, "assigned(0, 2)").refused(ARGUMENT, "assigned(0, -1)")
        .refused(INDEX, "assigned(1, 2)").refused(INDEX, "assigned(-1, 0)");
    promise(40, "Throws `NoSuchElementException` if there is no assignment");
    garden("1 .", "2 .").refused(MISSING, "assigned(0, 0)").refused(MISSING, "assigned(0, 1)").make("set(0, 0, 1, -999)")
        .dueAll("assigned(0, @)", 1, 0);
    garden(empty(6)).refused(MISSING, "assigned(0, @)", 0, 5).refused(ARGUMENT, "assigned(0, 6)");
  }

  private static void isSingular() {
    promise(41, "Returns whether a matrix is singular.");
    garden("0 0", "0 0").due(true, "isSingular(0)").make("set(0, 0, 0, 1)").due(false, "isSingular(0)")
        .make("set(0, 0, 1, 1)").due(true, "isSingular(0)").make("set(0, 0, 1, 2)").due(false, "isSingular(0)");
    matrixNumbers(41, MATRIX, "isSingular(@)", TWO);
    promise(41, "Returns true if so.");
    garden(".").due(true, "isSingular(0)").make("set(0, 0, 0, -999)").due(false, "isSingular(0)")
        .make("clear(0, 0, 0)").due(true, "isSingular(0)");
    garden(empty(6)).due(true, "isSingular(0)");
    garden(even(5)).due(true, "isSingular(0)");
    garden("0 . .", ". 0 .", ". . 0").due(false, "isSingular(0)").make("set(0, 0, 1, 4)", "set(0, 1, 0, -4)")
        .due(true, "isSingular(0)").make("set(0, 1, 0, -5)").due(false, "isSingular(0)");
  }

  private static void rank() {
    promise(42, "Returns the rank of a matrix.");
    garden("0 0 0", "0 1 2", "0 1 2").due(2, "rank(0)").make("set(0, 2, 2, 9)").due(3, "rank(0)");
    matrixNumbers(42, MATRIX, "rank(@)", TWO);
    promise(42, "Returns the number, 0 if it has no entries.");
    for (int rows = 1; rows <= 6; rows++) {
      String last = "0, " + (rows - 1) + ", 0";
      garden(empty(rows)).due(0, "rank(0)").make("set(" + last + ", -999)").due(1, "rank(0)")
          .make("clear(" + last + ")").due(0, "rank(0)");
    }
    garden(even(4)).due(1, "rank(0)");
    Bench six = new Bench().make("matrix(6)");
    for (int row = 0; row < 6; row++) {
      six.make("set(0, " + row + ", " + (5 - row) + ", 0)").due(row + 1, "rank(0)");
    }
    six.due(false, "isSingular(0)");
  }

  private static void unlike() {
    promise(43, "Returns the first four rows whose distances are not those of a tree: of the three sums of two entries "
        + "by which they can be parted into pairs, the greatest is there only once; with the entries of a lower and a "
        + "higher row.");
    garden(FAR_APART).due(123, "unlike(0)").make("set(0, 2, 3, 8)").due(123, "unlike(0)").make("set(0, 2, 3, 7)")
        .refused(MISSING, "unlike(0)").make("set(0, 2, 3, 6)").refused(MISSING, "unlike(0)").make("set(0, 2, 3, -999)")
        .refused(MISSING, "unlike(0)").make("set(0, 0, 2, 6)").due(123, "unlike(0)").make("set(0, 0, 3, 7)")
        .refused(MISSING, "unlike(0)").make("set(0, 0, 3, 8)").due(123, "unlike(0)");
    garden(FAR_APART).make("set(0, 2, 3, 7)").refused(MISSING, "unlike(0)").make("set(0, 1, 0, 999)",
        "set(0, 3, 2, 999)", "set(0, 0, 0, 999)", "set(0, 3, 0, -999)").refused(MISSING, "unlike(0)")
        .make("set(0, 1, 1, 999)", "set(0, 2, 2, 999)", "set(0, 3, 3, 999)").refused(MISSING, "unlike(0)")
        .make("set(0, 1, 1, -999)", "set(0, 2, 2, -999)", "set(0, 3, 3, -999)").refused(MISSING, "unlike(0)");
    matrixNumbers(43, MATRIX, "unlike(@)", FAR_APART);
    promise(43, "Returns the rows as four digits, rising.");
    garden(". 4 4 4 4 4", ". . 4 4 4 4", ". . . 4 4 5", ". . . . 4 4", ". . . . . 4", ". . . . . .").due(125, "unlike(0)")
        .make("set(0, 0, 5, 5)").due(135, "unlike(0)").make("set(0, 1, 5, 5)").due(345, "unlike(0)")
        .make("set(0, 3, 5, 5)").refused(MISSING, "unlike(0)").make("set(0, 4, 5, 6)").due(145, "unlike(0)");
    garden(". 1 4 2 4 3", ". . 4 2 4 3", ". . . 2 3 1", ". . . . 3 3", ". . . . . 3", ". . . . . .").due(234, "unlike(0)");
    garden(". 1 3 3 3 2", ". . 3 3 3 2", ". . . 2 4 4", ". . . . 4 4", ". . . . . 1", ". . . . . .").due(245, "unlike(0)");
    garden(". 4 4 3 4", ". . 4 4 4", ". . . 4 3", ". . . . 2", ". . . . .").due(134, "unlike(0)");
    promise(43, "Throws `UnsupportedOperationException` if some entry of a lower row and a higher column is missing");
    for (int rows = 2; rows <= 6; rows++) {
      Bench made = new Bench().make("matrix(" + rows + ")");
      for (int place = 0; place < rows * rows; place++) {
        if (place / rows < place % rows) {
          made.make("set(0, " + place / rows + ", " + place % rows + ", " + (place == 1 ? 9 : 4) + ")");
        }
      }
      for (int place = 0; place < rows * rows; place++) {
        if (place / rows < place % rows) {
          String at = place / rows + ", " + place % rows;
          made.make("clear(0, " + at + ")").refused(UNSUPPORTED, "unlike(0)").make("set(0, " + at + ", 9)");
        }
      }
      made.refused(INDEX, "unlike(1)");
    }
    promise(43, "Throws `NoSuchElementException` if there are no such rows");
    garden(".").refused(MISSING, "unlike(0)");
    garden(". 5", ". .").refused(MISSING, "unlike(0)");
    garden(". 5 900", ". . 1", ". . .").refused(MISSING, "unlike(0)").make("clear(0, 0, 1)")
        .refused(UNSUPPORTED, "unlike(0)");
    garden(even(3)).refused(MISSING, "unlike(0)").refused(INDEX, "unlike(1)").refused(INDEX, "unlike(-1)");
  }

  private static void isHeld() {
    promise(44, "Returns whether a column is the sum of columns of the first matrix, to each of which some whole number "
        + "is added, or which is left out.");
    garden("0 2 .", "1 . .", "3 5 .").matrix("5 . 7", "4 . .", "8 . 10").dueAll("isHeld(0, 1, @)", true, true, true)
        .due(false, "isHeld(1, 0, 0)").make("set(1, 2, 2, 11)").due(false, "isHeld(0, 1, 2)")
        .make("set(1, 2, 2, 9)").due(false, "isHeld(0, 1, 2)").make("set(1, 0, 0, 6)").due(false, "isHeld(0, 1, 0)");
    garden("0 .", ". 0").matrix("-999 999", "999 .").dueAll("isHeld(0, 1, @)", true, true).make("clear(0, 1, 1)")
        .dueAll("isHeld(0, 1, @)", false, true);
    garden("0 0", "0 1").matrix("0 0", "-1 2").dueAll("isHeld(0, 1, @)", false, false).make("set(1, 1, 0, 0)")
        .make("set(1, 1, 1, 1)").dueAll("isHeld(0, 1, @)", true, true);
    matrixNumbers(44, ONE, "isHeld(@, 0, 0)", TWO);
    matrixNumbers(44, "`other`: that of another one", "isHeld(0, @, 0)", TWO);
    garden(". 3", "1 -5").dueAll("isHeld(0, 0, @)", true, true);
    promise(44, "`column`: a column of the other one");
    new Bench().matrix(even(1)).matrix(even(2)).matrix("1").due(true, "isHeld(0, 1, 5)").due(true, "isHeld(2, 2, 0)")
        .outside(ARGUMENT, "isHeld(0, 1, @)", 0, 5).outside(ARGUMENT, "isHeld(2, 2, @)", 0, 0);
    promise(44, "Returns true if so; a column without entries is.");
    garden("0 .", ". .").matrix(". .", ". 3").due(true, "isHeld(0, 1, 0)").due(false, "isHeld(0, 1, 1)")
        .due(true, "isHeld(1, 0, 1)").due(false, "isHeld(1, 0, 0)");
    garden(empty(6)).matrix(even(1)).due(true, "isHeld(0, 0, 0)").due(true, "isHeld(1, 0, 5)")
        .due(false, "isHeld(0, 1, 5)").due(true, "isHeld(1, 1, 5)");
    promise(44, EITHER);
    garden("1").refused(INDEX, "isHeld(0, 1, 0)").refused(INDEX, "isHeld(1, 0, 0)").refused(INDEX, "isHeld(0, 1, 9)")
        .refused(INDEX, "isHeld(-1, 0, -1)");
    promise(44, "Throws `UnsupportedOperationException` if they have unlike numbers of rows");
    garden("1").matrix("1 1", "1 1").refused(UNSUPPORTED, "isHeld(0, 1, 0)").refused(UNSUPPORTED, "isHeld(1, 0, 0)")
        .refused(UNSUPPORTED, "isHeld(0, 1, 2)").refused(UNSUPPORTED, "isHeld(1, 0, -1)")
        .refused(INDEX, "isHeld(0, 2, 0)").refused(INDEX, "isHeld(2, 1, 0)");
    promise(44, "Throws `IllegalArgumentException` if there is no such column");
    garden("1 1", "1 1").refused(ARGUMENT, "isHeld(0, 0, 2)").refused(ARGUMENT, "isHeld(0, 0, -1)")
        .refused(INDEX, "isHeld(0, 1, 2)").due(true, "isHeld(0, 0, 1)");
  }

  private static void numberWords() {
    terms("A matrix can have nothing at a place: what cannot be reached, which is less than all, and stays so whatever "
        + "is added.");
    hundredTimes(-999, -99).make("times(8, 9)", "clear(9, 0, 0)").due(11, "plus(9, 10)").due(-99999, "entry(11, 0, 0)");
    garden("999 .", "999 .").matrix("-999 .", ". 999").make("times(0, 1)").entries(2, "0 .|0 .").make("times(1, 0)")
        .entries(3, "0 .|1998 .").make("plus(0, 1)").entries(4, "999 .|999 999");
    garden(". 999", ". .").make("times(0, 0)").entries(1, ". .|. .").make("times(1, 0)").entries(2, ". .|. .")
        .make("begin(0)", "go(50)").due(999, "time(0)").due(0, "time(1)");
    terms("At most 12 are numbered from 0, square, of 1 to 6 rows.");
    new Bench().due(0, "matrix(6)").due(1, "matrix(1)").refused(ARGUMENT, "matrix(@)", 0, 7).make("star(1)", "plus(0, 0)")
        .makeTimes(7, "matrix(2)").due(11, "times(0, 0)").refused(STATE, "matrix(6)").refused(STATE, "plus(0, 0)")
        .refused(STATE, "times(0, 0)").refused(STATE, "star(0)").due(1, "set(0, 5, 5, 1)");
    terms("The sum has at each place the greater one; the product, of row r and column c, the greatest sum of an entry of "
        + "the row r of the first and the entry with the same index of the column c of the second.");
    garden("1 -2 .", ". 0 3", "-4 . .").matrix("-1 . 2", "5 -6 .", ". 7 0").make("plus(0, 1)")
        .entries(2, "1 -2 2|5 0 3|-4 7 0").make("times(0, 1)").entries(3, "3 -8 3|5 10 3|-5 . -2").make("times(1, 0)")
        .entries(4, "0 -3 .|6 3 -3|-4 7 10");
  }

  private static void wayWords() {
    terms("A way from r to c goes by entries, of row and column; its weight is their sum; a cycle comes back, and its "
        + "mean is its weight by its number of entries.");
    garden(". 5 . .", ". . 6 .", ". . . 7", "-20 . . .").due(-1, "mean(0, false)").due(2, "mean(0, true)")
        .due(-1, "meanAnew(0, false)").due(2, "meanAnew(0, true)").make("star(0)")
        .entries(1, "0 5 11 18|-7 0 6 13|-13 -8 0 7|-20 -15 -9 0");
    terms("The star has at r and c the greatest weight of a way from r to c, 0 for none of entries from a place to "
        + "itself; it exists if no cycle has a weight above 0.");
    garden("-5 -1 -9", ". . -2", ". . .").make("star(0)").entries(1, "0 -1 -3|. 0 -2|. . 0").make("set(0, 0, 2, -2)")
        .due(2, "star(0)").entries(2, "0 -1 -2|. 0 -2|. . 0").make("set(0, 2, 0, 2)").due(3, "star(0)")
        .entries(3, "0 -1 -2|0 0 -2|2 1 0").make("set(0, 2, 0, 3)").refused(UNSUPPORTED, "star(0)");
    garden(".").due(1, "star(0)").entries(1, "0");
    garden(empty(6)).make("star(0)").entries(1, "0 . . . . .|. 0 . . . .|. . 0 . . .|. . . 0 . .|. . . . 0 .|. . . . . 0");
    terms("The critical rows are those on cycles of the greatest mean.");
    garden(". 1 9 .", "3 . 9 .", ". . 1 9", ". . . .").due(3, "critical(0)").make("set(0, 2, 2, 2)")
        .due(7, "critical(0)").make("set(0, 2, 2, 3)").due(4, "critical(0)").make("set(0, 3, 3, 3)")
        .due(12, "critical(0)").make("set(0, 3, 2, -9)").due(12, "critical(0)").make("set(0, 3, 2, -2)")
        .due(12, "critical(0)").due(7, "mean(0, false)").due(2, "mean(0, true)");
    terms("With the lowest critical row c, and the mean n by d in lowest terms, the eigenvector has at r the entry of r "
        + "and c in the star of the matrix of all entries times d, less n.");
    garden(". . 4", ". . 3", ". 2 .").due(6, "critical(0)").dueAll("eigen(0, @)", 2, 0, -1)
        .make("set(0, 0, 1, 4)").dueAll("eigen(0, @)", 3, 0, -1).make("set(0, 0, 0, 3)").due(1, "critical(0)")
        .due(0, "eigen(0, 0)").refused(MISSING, "eigen(0, @)", 1, 2);
    garden("7 . .", ". 7 .", "-1 -9 7").due(7, "critical(0)").due(0, "eigen(0, 0)").due(-8, "eigen(0, 2)")
        .refused(MISSING, "eigen(0, 1)").make("clear(0, 0, 0)").due(6, "critical(0)").due(0, "eigen(0, 1)")
        .due(-16, "eigen(0, 2)").refused(MISSING, "eigen(0, 0)");
  }

  private static void assignmentWords() {
    terms("One gives each row a column of its own; its weight is the sum.");
    garden("9 8 .", "9 1 .", "9 . 2").due(19, "assignment(0)").dueAll("assigned(0, @)", 1, 0, 2);
    garden("-4").due(-4, "assignment(0)").due(0, "assigned(0, 0)");
    terms("A matrix is singular if no assignment has a weight, or the greatest is that of two or more.");
    garden("1 .", "1 .").due(true, "isSingular(0)").make("set(0, 0, 1, -9)").due(false, "isSingular(0)")
        .make("set(0, 1, 1, -9)").due(true, "isSingular(0)").make("set(0, 1, 1, -8)").due(false, "isSingular(0)");
    garden("5 0 0", "0 0 0", "0 0 0").due(true, "isSingular(0)").make("set(0, 1, 1, 1)").due(false, "isSingular(0)")
        .make("set(0, 0, 1, 6)").due(true, "isSingular(0)");
    terms("The rank is the greatest number of rows and columns, in their order, by which a matrix that is not singular "
        + "can be taken out.");
    garden("3 . .", ". . .", ". . 4").due(2, "rank(0)").due(true, "isSingular(0)").make("set(0, 0, 2, 9)")
        .due(2, "rank(0)").make("set(0, 2, 0, -2)").due(1, "rank(0)").make("clear(0, 0, 2)", "clear(0, 2, 0)")
        .due(2, "rank(0)").make("clear(0, 0, 0)").due(1, "rank(0)");
    garden("3 9 9", "9 9 9", "-2 9 4").due(3, "rank(0)");
    garden("1 2 3 4 5 6", "2 3 4 5 6 7", "0 1 2 3 4 5", "9 10 11 12 13 14", "5 6 7 8 9 10", "1 2 3 4 5 6")
        .due(1, "rank(0)").make("set(0, 5, 2, 4)").due(2, "rank(0)").make("set(0, 3, 0, 10)").due(3, "rank(0)")
        .make("set(0, 0, 5, 9)").due(4, "rank(0)");
    garden(". 0 0", "0 . 0", "0 0 .").due(true, "isSingular(0)").due(2, "rank(0)").make("set(0, 2, 1, 1)")
        .due(3, "rank(0)");
  }
}
