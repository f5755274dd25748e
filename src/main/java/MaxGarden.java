import java.util.Arrays;
import java.util.NoSuchElementException;

/** Polynomials, curves, matrices and timetables where sums are the greatest and products are sums. */
public final class MaxGarden {
  /** Less than all, and so never the greater one of two; it is never added to. */
  private static final int NOTHING = -2147483648;

  private static final int POLYS = 10;
  private static final int TOP_POWER = 8;
  private static final int WIDTH = TOP_POWER + 1;
  private static final int CELLS = WIDTH * WIDTH;
  /** Corners' polygons part the square of all powers, whose doubled area is 128, and each has at least 1. */
  private static final int CORNERS = 2 * TOP_POWER * TOP_POWER;
  private static final int TOP_TOLD = 999;
  private static final int TOP_POINT = 9999;
  private static final long FAR = 1000000000L;
  /** Below the values of all terms, even times the lower number of a corner. */
  private static final long LOWEST = -4000000000000000000L;
  /** All 81 terms have 648 letters, 80 signs between them and seven signs at most for a coefficient. */
  private static final int SIGNS = 1300;

  private static final int MATRICES = 12;
  private static final int ROWS = 6;
  private static final int PLACES = ROWS * ROWS;
  private static final int COLUMN_SETS = 1 << ROWS;
  private static final int TOP_ENTRY = 99999;
  private static final int TOP_ROUNDS = 50;
  private static final int TOP_TIME = 999999;

  private static final int LEFT = 1;
  private static final int RIGHT = -1;

  private final Poly[] polys = new Poly[POLYS];
  private int polyCount;
  private final Poly between = new Poly();
  private final Net net = new Net();
  private final boolean[] neededBefore = new boolean[CELLS];
  private final Matrix[] matrices = new Matrix[MATRICES];
  private int matrixCount;
  private final Cycles cycles = new Cycles();
  private final Assignments assignments = new Assignments();
  private final Timetable timetable = new Timetable();
  private final char[] signs = new char[SIGNS];
  private int signCount;

  public MaxGarden() {
  }

  // ---- polynomials

  public int poly() throws IllegalStateException {
    refuseFullPolys();
    return keepPoly(new Poly());
  }

  public int term(int poly, int i, int j, int coefficient)
      throws IndexOutOfBoundsException, IllegalArgumentException {
    Poly chosen = chosenPoly(poly);
    int cell = cellOf(i, j);
    if (cell < 0 || !isWithin(coefficient, TOP_TOLD)) {
      throw new IllegalArgumentException("powers are 0 to 8, coefficients -999 to 999");
    }
    chosen.join(cell, coefficient);
    return chosen.size;
  }

  public int drop(int poly, int i, int j) throws IndexOutOfBoundsException, NoSuchElementException {
    Poly chosen = chosenPoly(poly);
    int cell = cellOf(i, j);
    int found = presentCoefficient(chosen, cell);
    chosen.takeOut(cell);
    return found;
  }

  public int terms(int poly) throws IndexOutOfBoundsException {
    return chosenPoly(poly).size;
  }

  public int coefficient(int poly, int i, int j) throws IndexOutOfBoundsException, NoSuchElementException {
    return presentCoefficient(chosenPoly(poly), cellOf(i, j));
  }

  public int value(int poly, int x, int y)
      throws IndexOutOfBoundsException, IllegalArgumentException, NoSuchElementException {
    Poly chosen = chosenPoly(poly);
    refuseFarPoint(x, y);
    if (chosen.size == 0) {
      throw new NoSuchElementException("the polynomial has no terms");
    }
    return (int) chosen.heightAt(x, y, 1);
  }

  public int greatest(int poly, int x, int y) throws IndexOutOfBoundsException, IllegalArgumentException {
    Poly chosen = chosenPoly(poly);
    refuseFarPoint(x, y);
    long height = chosen.heightAt(x, y, 1);
    int count = 0;
    for (int cell = 0; cell < CELLS; cell++) {
      if (chosen.has(cell) && chosen.heightOf(cell, x, y, 1) == height) {
        count++;
      }
    }
    return count;
  }

  public int sum(int one, int other) throws IndexOutOfBoundsException, IllegalStateException {
    Poly first = chosenPoly(one);
    Poly second = chosenPoly(other);
    refuseFullPolys();
    Poly made = new Poly();
    for (int cell = 0; cell < CELLS; cell++) {
      made.join(cell, first.at(cell));
      made.join(cell, second.at(cell));
    }
    return keepPoly(made);
  }

  public int product(int one, int other)
      throws IndexOutOfBoundsException, IllegalStateException, UnsupportedOperationException {
    Poly first = chosenPoly(one);
    Poly second = chosenPoly(other);
    refuseFullPolys();
    refuseHighProduct(first, second);
    Poly made = new Poly();
    made.becomeProduct(first, second);
    return keepPoly(made);
  }

  public boolean isNeeded(int poly, int i, int j) throws IndexOutOfBoundsException, NoSuchElementException {
    Poly chosen = chosenPoly(poly);
    int cell = cellOf(i, j);
    presentCoefficient(chosen, cell);
    net.build(chosen);
    return net.isMarked(cell);
  }

  public int needed(int poly) throws IndexOutOfBoundsException {
    return neededOf(chosenPoly(poly));
  }

  public boolean isSame(int one, int other) throws IndexOutOfBoundsException {
    Poly first = chosenPoly(one);
    Poly second = chosenPoly(other);
    net.build(first);
    for (int cell = 0; cell < CELLS; cell++) {
      neededBefore[cell] = net.isMarked(cell);
    }
    net.build(second);
    for (int cell = 0; cell < CELLS; cell++) {
      if (neededBefore[cell] != net.isMarked(cell)) {
        return false;
      }
      if (neededBefore[cell] && first.at(cell) != second.at(cell)) {
        return false;
      }
    }
    return true;
  }

  // ---- roots

  public int roots(int poly) throws IndexOutOfBoundsException, UnsupportedOperationException {
    Poly chosen = chosenPoly(poly);
    refuseWithoutRoots(chosen);
    return neededOf(chosen) - 1;
  }

  public int root(int poly, int index, char what)
      throws IndexOutOfBoundsException, UnsupportedOperationException, IllegalArgumentException,
      NoSuchElementException {
    Poly chosen = chosenPoly(poly);
    refuseWithoutRoots(chosen);
    if (what != 'n' && what != 'd' && what != 't') {
      throw new IllegalArgumentException("a root has n, d and t");
    }
    net.build(chosen);
    int low = markedPower(index);
    int high = low < 0 ? -1 : markedPower(index + 1);
    if (high < 0) {
      throw new NoSuchElementException("there is no such root");
    }
    int turns = high - low;
    int rise = chosen.at(low * WIDTH) - chosen.at(high * WIDTH);
    int shared = commonDivisor(rise, turns);
    if (what == 't' || shared == 0) {
      return turns;
    }
    return what == 'n' ? rise / shared : turns / shared;
  }

  public int turnsAnew(int poly) throws IndexOutOfBoundsException, UnsupportedOperationException {
    Poly chosen = chosenPoly(poly);
    refuseWithoutRoots(chosen);
    return turnsByValues(chosen);
  }

  // ---- curves

  public int corners(int poly) throws IndexOutOfBoundsException, UnsupportedOperationException {
    buildCurve(chosenPoly(poly));
    return net.count;
  }

  public int corner(int poly, int index, char what)
      throws IndexOutOfBoundsException, UnsupportedOperationException, IllegalArgumentException,
      NoSuchElementException {
    Poly chosen = chosenPoly(poly);
    buildCurve(chosen);
    if (what != 'x' && what != 'y' && what != 'd' && what != 'a' && what != 'n' && what != 'e') {
      throw new IllegalArgumentException("a corner has x, y, d, a, n and e");
    }
    loadCorner(chosen, index);
    if (what == 'a') {
      return net.polygon.doubledArea();
    }
    if (what == 'n') {
      return net.polygon.points;
    }
    if (what == 'e') {
      return net.polygon.vertices;
    }
    if (what == 'd') {
      return net.dOf(index);
    }
    return what == 'x' ? net.xOf(index) : net.yOf(index);
  }

  public int weight(int poly, int index, int edge)
      throws IndexOutOfBoundsException, UnsupportedOperationException, NoSuchElementException {
    Poly chosen = chosenPoly(poly);
    buildCurve(chosen);
    loadCorner(chosen, index);
    if (edge < 0 || edge >= net.polygon.vertices) {
      throw new NoSuchElementException("there is no such edge");
    }
    return net.polygon.sideWeight(edge);
  }

  public boolean isBalanced(int poly, int index)
      throws IndexOutOfBoundsException, UnsupportedOperationException, NoSuchElementException {
    Poly chosen = chosenPoly(poly);
    buildCurve(chosen);
    loadCorner(chosen, index);
    return net.polygon.isClosed();
  }

  public int rays(int poly) throws IndexOutOfBoundsException, UnsupportedOperationException {
    buildCurve(chosenPoly(poly));
    return net.outerSides;
  }

  public int links(int poly) throws IndexOutOfBoundsException, UnsupportedOperationException {
    buildCurve(chosenPoly(poly));
    return net.innerSides / 2;
  }

  public int genus(int poly) throws IndexOutOfBoundsException, UnsupportedOperationException {
    buildCurve(chosenPoly(poly));
    return net.innerSides / 2 - net.count + 1;
  }

  public int area(int poly) throws IndexOutOfBoundsException {
    return areaOf(chosenPoly(poly));
  }

  public int areaAnew(int poly) throws IndexOutOfBoundsException, UnsupportedOperationException {
    Poly chosen = chosenPoly(poly);
    buildCurve(chosen);
    return areaByCorners(chosen);
  }

  public int meet(int one, int other) throws IndexOutOfBoundsException, UnsupportedOperationException {
    Poly first = chosenPoly(one);
    Poly second = chosenPoly(other);
    makeBetween(first, second);
    return (areaOf(between) - areaOf(first) - areaOf(second)) / 2;
  }

  public int meetAnew(int one, int other) throws IndexOutOfBoundsException, UnsupportedOperationException {
    Poly first = chosenPoly(one);
    Poly second = chosenPoly(other);
    makeBetween(first, second);
    buildCurve(between);
    int doubled = 0;
    for (int k = 0; k < net.count; k++) {
      doubled += areaAtCorner(between, k) - areaAtCorner(first, k) - areaAtCorner(second, k);
    }
    return doubled / 2;
  }

  // ---- matrices

  public int matrix(int rows) throws IllegalArgumentException, IllegalStateException {
    if (rows < 1 || rows > ROWS) {
      throw new IllegalArgumentException("a matrix has 1 to 6 rows");
    }
    refuseFullMatrices();
    return keepMatrix(new Matrix(rows));
  }

  public int set(int matrix, int row, int column, int entry)
      throws IndexOutOfBoundsException, IllegalArgumentException {
    Matrix chosen = chosenMatrix(matrix);
    refuseWrongPlace(chosen, row, column);
    if (!isWithin(entry, TOP_TOLD)) {
      throw new IllegalArgumentException("entries are -999 to 999");
    }
    chosen.put(row, column, entry);
    return chosen.filled();
  }

  public int clear(int matrix, int row, int column) throws IndexOutOfBoundsException, IllegalArgumentException {
    Matrix chosen = chosenMatrix(matrix);
    refuseWrongPlace(chosen, row, column);
    chosen.put(row, column, NOTHING);
    return chosen.filled();
  }

  public int entry(int matrix, int row, int column)
      throws IndexOutOfBoundsException, IllegalArgumentException, NoSuchElementException {
    Matrix chosen = chosenMatrix(matrix);
    refuseWrongPlace(chosen, row, column);
    int found = chosen.at(row, column);
    if (found == NOTHING) {
      throw new NoSuchElementException("nothing is at this place");
    }
    return found;
  }

  public int plus(int one, int other)
      throws IndexOutOfBoundsException, UnsupportedOperationException, IllegalStateException {
    Matrix first = chosenMatrix(one);
    Matrix second = chosenMatrix(other);
    refuseUnlikeRows(first, second);
    refuseFullMatrices();
    Matrix made = new Matrix(first.rows);
    for (int place = 0; place < PLACES; place++) {
      made.held[place] = Math.max(first.held[place], second.held[place]);
    }
    return keepMatrix(made);
  }

  public int times(int one, int other)
      throws IndexOutOfBoundsException, UnsupportedOperationException, IllegalStateException {
    Matrix first = chosenMatrix(one);
    Matrix second = chosenMatrix(other);
    refuseUnlikeRows(first, second);
    Matrix made = new Matrix(first.rows);
    multiply(first.held, second.held, made.held);
    refuseFarEntries(made);
    refuseFullMatrices();
    return keepMatrix(made);
  }

  public int star(int matrix)
      throws IndexOutOfBoundsException, UnsupportedOperationException, IllegalStateException {
    Matrix chosen = chosenMatrix(matrix);
    cycles.findMean(chosen);
    if (cycles.lower > 0 && cycles.upper > 0) {
      throw new UnsupportedOperationException("a cycle has a weight above 0");
    }
    Matrix made = new Matrix(chosen.rows);
    System.arraycopy(chosen.held, 0, made.held, 0, PLACES);
    closeWays(made.held);
    for (int row = 0; row < made.rows; row++) {
      made.put(row, row, Math.max(0, made.at(row, row)));
    }
    refuseFarEntries(made);
    refuseFullMatrices();
    return keepMatrix(made);
  }

  public int mean(int matrix, boolean isLower) throws IndexOutOfBoundsException, NoSuchElementException {
    cycles.findMean(chosenMatrix(matrix));
    return foundMean(isLower);
  }

  public int meanAnew(int matrix, boolean isLower) throws IndexOutOfBoundsException, NoSuchElementException {
    cycles.tryAll(chosenMatrix(matrix));
    return foundMean(isLower);
  }

  public int critical(int matrix) throws IndexOutOfBoundsException {
    cycles.prepare(chosenMatrix(matrix));
    return cycles.criticalBits();
  }

  public int eigen(int matrix, int row)
      throws IndexOutOfBoundsException, IllegalArgumentException, NoSuchElementException {
    Matrix chosen = chosenMatrix(matrix);
    refuseWrongPlace(chosen, row, 0);
    cycles.prepare(chosen);
    int found = cycles.eigenEntry(chosen, row);
    if (found == NOTHING) {
      throw new NoSuchElementException("there is no such entry");
    }
    return found;
  }

  public int assignment(int matrix) throws IndexOutOfBoundsException, NoSuchElementException {
    Matrix chosen = chosenMatrix(matrix);
    loadAssignments(chosen);
    return assignments.bestWith(chosen.rowSet());
  }

  public int assigned(int matrix, int row)
      throws IndexOutOfBoundsException, IllegalArgumentException, NoSuchElementException {
    Matrix chosen = chosenMatrix(matrix);
    refuseWrongPlace(chosen, row, 0);
    loadAssignments(chosen);
    return assignments.firstColumn(chosen, row);
  }

  public boolean isSingular(int matrix) throws IndexOutOfBoundsException {
    Matrix chosen = chosenMatrix(matrix);
    assignments.load(chosen, chosen.rowSet());
    return assignments.waysWith(chosen.rowSet()) != 1;
  }

  public int rank(int matrix) throws IndexOutOfBoundsException {
    Matrix chosen = chosenMatrix(matrix);
    for (int size = chosen.rows; size > 0; size--) {
      if (hasRegularPart(chosen, size)) {
        return size;
      }
    }
    return 0;
  }

  public int unlike(int matrix)
      throws IndexOutOfBoundsException, UnsupportedOperationException, NoSuchElementException {
    Matrix chosen = chosenMatrix(matrix);
    if (!chosen.hasDistances()) {
      throw new UnsupportedOperationException("a distance is missing");
    }
    int found = firstUnlike(chosen);
    if (found < 0) {
      throw new NoSuchElementException("all distances are those of a tree");
    }
    return found;
  }

  public boolean isHeld(int one, int other, int column)
      throws IndexOutOfBoundsException, UnsupportedOperationException, IllegalArgumentException {
    Matrix first = chosenMatrix(one);
    Matrix second = chosenMatrix(other);
    refuseUnlikeRows(first, second);
    refuseWrongPlace(second, 0, column);
    for (int row = 0; row < second.rows; row++) {
      if (!isReached(first, second, column, row)) {
        return false;
      }
    }
    return true;
  }

  // ---- timetables

  public int begin(int matrix) throws IndexOutOfBoundsException {
    Matrix chosen = chosenMatrix(matrix);
    timetable.restart(chosen);
    return chosen.rows;
  }

  public int go(int rounds)
      throws IllegalStateException, IllegalArgumentException, UnsupportedOperationException {
    refuseNoTimetable();
    if (rounds < 1 || rounds > TOP_ROUNDS) {
      throw new IllegalArgumentException("rounds are 1 to 50");
    }
    if (!timetable.pass(rounds)) {
      throw new UnsupportedOperationException("a time would not be -999999 to 999999");
    }
    int count = 0;
    for (int event = 0; event < timetable.events; event++) {
      if (timetable.lateness(event) > 0) {
        count++;
      }
    }
    return count;
  }

  public int delay(int event, int by)
      throws IllegalStateException, IllegalArgumentException, UnsupportedOperationException {
    refuseNoTimetable();
    refuseWrongEvent(event);
    if (by < 1 || by > TOP_TOLD) {
      throw new IllegalArgumentException("delays are 1 to 999");
    }
    int then = timetable.timeOf(event) + by;
    if (then > TOP_TIME) {
      throw new UnsupportedOperationException("the time would be more than 999999");
    }
    timetable.moveTo(event, then);
    return then;
  }

  public int time(int event) throws IllegalStateException, IllegalArgumentException {
    refuseNoTimetable();
    refuseWrongEvent(event);
    return timetable.timeOf(event);
  }

  public int late(int event) throws IllegalStateException, IllegalArgumentException {
    refuseNoTimetable();
    refuseWrongEvent(event);
    return timetable.lateness(event);
  }

  // ---- writing and figures

  public int write(int poly) throws IndexOutOfBoundsException {
    Poly chosen = chosenPoly(poly);
    signCount = 0;
    for (int i = TOP_POWER; i >= 0; i--) {
      for (int j = TOP_POWER; j >= 0; j--) {
        int cell = cellOf(i, j);
        if (chosen.has(cell)) {
          writeTerm(chosen.at(cell), i, j);
        }
      }
    }
    return signCount;
  }

  public char sign(int index) throws NoSuchElementException {
    if (index < 0 || index >= signCount || index >= signs.length) {
      throw new NoSuchElementException("there is no such sign");
    }
    return signs[index];
  }

  public long print() {
    long print = 7;
    for (int k = 0; k < polyCount; k++) {
      Poly poly = chosenPoly(k);
      for (int cell = 0; cell < CELLS; cell++) {
        if (poly.has(cell)) {
          print = print * 31 + poly.at(cell);
        }
      }
      print *= 31;
    }
    for (int k = 0; k < matrixCount; k++) {
      Matrix matrix = chosenMatrix(k);
      for (int row = 0; row < matrix.rows; row++) {
        for (int column = 0; column < matrix.rows; column++) {
          int entry = matrix.at(row, column);
          print = print * 31 + (entry == NOTHING ? 1 : 2 * entry);
        }
      }
      print *= 31;
    }
    return print;
  }

  public float neededShare(int poly) throws IndexOutOfBoundsException, ArithmeticException {
    Poly chosen = chosenPoly(poly);
    if (chosen.size == 0) {
      throw new ArithmeticException("the polynomial has no terms");
    }
    return (float) neededOf(chosen) / (float) chosen.size;
  }

  public double meanOf(int matrix) throws IndexOutOfBoundsException, NoSuchElementException {
    cycles.findMean(chosenMatrix(matrix));
    int upper = foundMean(false);
    int lower = foundMean(true);
    return (double) upper / (double) lower;
  }

  public boolean isSound() {
    for (int k = 0; k < polyCount; k++) {
      if (!isSoundPoly(chosenPoly(k))) {
        return false;
      }
    }
    for (int k = 0; k < matrixCount; k++) {
      if (!isSoundMatrix(chosenMatrix(k))) {
        return false;
      }
    }
    return true;
  }

  // ---- what the calls refuse

  private Poly chosenPoly(int number) {
    Poly found = number < 0 || number >= polyCount || number >= polys.length ? null : polys[number];
    if (found == null) {
      throw new IndexOutOfBoundsException("there is no such polynomial");
    }
    return found;
  }

  private Matrix chosenMatrix(int number) {
    Matrix found = number < 0 || number >= matrixCount || number >= matrices.length ? null : matrices[number];
    if (found == null) {
      throw new IndexOutOfBoundsException("there is no such matrix");
    }
    return found;
  }

  private void refuseFullPolys() {
    if (polyCount >= polys.length) {
      throw new IllegalStateException("there are 10 polynomials");
    }
  }

  private void refuseFullMatrices() {
    if (matrixCount >= matrices.length) {
      throw new IllegalStateException("there are 12 matrices");
    }
  }

  private static void refuseFarPoint(int x, int y) {
    if (!isWithin(x, TOP_POINT) || !isWithin(y, TOP_POINT)) {
      throw new IllegalArgumentException("points are -9999 to 9999");
    }
  }

  private static void refuseHighProduct(Poly first, Poly second) {
    if (first.size > 0 && second.size > 0
        && (first.topX() + second.topX() > TOP_POWER || first.topY() + second.topY() > TOP_POWER)) {
      throw new UnsupportedOperationException("a power would be more than 8");
    }
  }

  private static void refuseWithoutRoots(Poly poly) {
    if (!isOfXAlone(poly)) {
      throw new UnsupportedOperationException("roots are of polynomials of x alone");
    }
  }

  private static void refuseWrongPlace(Matrix matrix, int row, int column) {
    if (!matrix.hasPlace(row, column)) {
      throw new IllegalArgumentException("there is no such place");
    }
  }

  private static void refuseUnlikeRows(Matrix first, Matrix second) {
    if (first.rows != second.rows) {
      throw new UnsupportedOperationException("the matrices have unlike numbers of rows");
    }
  }

  private static void refuseFarEntries(Matrix made) {
    for (int place = 0; place < PLACES; place++) {
      int entry = made.held[place];
      if (entry != NOTHING && !isWithin(entry, TOP_ENTRY)) {
        throw new UnsupportedOperationException("an entry would not be -99999 to 99999");
      }
    }
  }

  private void refuseNoTimetable() {
    if (timetable.events == 0) {
      throw new IllegalStateException("no timetable has begun");
    }
  }

  private void refuseWrongEvent(int event) {
    if (event < 0 || event >= timetable.events) {
      throw new IllegalArgumentException("there is no such event");
    }
  }

  private static int presentCoefficient(Poly poly, int cell) {
    if (!poly.has(cell)) {
      throw new NoSuchElementException("there is no such term");
    }
    return poly.at(cell);
  }

  private int foundMean(boolean isLower) {
    if (cycles.lower <= 0) {
      throw new NoSuchElementException("there is no cycle");
    }
    return isLower ? cycles.lower : cycles.upper;
  }

  private void loadAssignments(Matrix matrix) {
    assignments.load(matrix, matrix.rowSet());
    if (assignments.waysWith(matrix.rowSet()) == 0) {
      throw new NoSuchElementException("there is no assignment");
    }
  }

  private void buildCurve(Poly poly) {
    net.build(poly);
    if (net.count == 0) {
      throw new UnsupportedOperationException("all needed terms are on one line");
    }
  }

  private void loadCorner(Poly poly, int index) {
    if (index < 0 || index >= net.count) {
      throw new NoSuchElementException("there is no such corner");
    }
    net.loadPolygon(poly, index);
  }

  private void makeBetween(Poly first, Poly second) {
    if (first.size == 0 || second.size == 0) {
      throw new UnsupportedOperationException("a polynomial has no terms");
    }
    refuseHighProduct(first, second);
    between.becomeProduct(first, second);
  }

  // ---- helpers of the calls

  private int keepPoly(Poly made) {
    if (polyCount < polys.length) {
      polys[polyCount] = made;
      polyCount++;
    }
    return polyCount - 1;
  }

  private int keepMatrix(Matrix made) {
    if (matrixCount < matrices.length) {
      matrices[matrixCount] = made;
      matrixCount++;
    }
    return matrixCount - 1;
  }

  private static boolean isWithin(int number, int top) {
    return number >= -top && number <= top;
  }

  private static int cellOf(int i, int j) {
    return i < 0 || i > TOP_POWER || j < 0 || j > TOP_POWER ? -1 : i * WIDTH + j;
  }

  /** Doubled area of the triangle of three cells, above 0 if the third is at the left of the way. */
  private static int turnOf(int from, int to, int cell) {
    int alongX = to / WIDTH - from / WIDTH;
    int alongY = to % WIDTH - from % WIDTH;
    int asideX = cell / WIDTH - from / WIDTH;
    int asideY = cell % WIDTH - from % WIDTH;
    return alongX * asideY - alongY * asideX;
  }

  /** Only fit to compare cells of one line, where it stands for the distance. */
  private static int stretchOf(int from, int to) {
    return Math.abs(to / WIDTH - from / WIDTH) + Math.abs(to % WIDTH - from % WIDTH);
  }

  private static int commonDivisor(long one, long other) {
    long high = Math.abs(one);
    long low = Math.abs(other);
    for (int step = 0; step < 200 && low != 0; step++) {
      long rest = high % low;
      high = low;
      low = rest;
    }
    return (int) high;
  }

  private static boolean isOfXAlone(Poly poly) {
    return poly.size > 0 && poly.topY() == 0;
  }

  private int neededOf(Poly poly) {
    net.build(poly);
    int count = 0;
    for (int cell = 0; cell < CELLS; cell++) {
      if (net.isMarked(cell)) {
        count++;
      }
    }
    return count;
  }

  /** The power of x of a needed term without y, by its place among them, or -1. */
  private int markedPower(int index) {
    int before = 0;
    for (int i = 0; i <= TOP_POWER; i++) {
      if (net.isMarked(i * WIDTH)) {
        if (before == index) {
          return i;
        }
        before++;
      }
    }
    return -1;
  }

  /** Fit once the net has been built for a polynomial of x alone. */
  private int turnsByRoots() {
    int turns = 0;
    for (int k = 1; k <= TOP_POWER; k++) {
      if (markedPower(k) >= 0) {
        turns += markedPower(k) - markedPower(k - 1);
      }
    }
    return turns;
  }

  private static int turnsByValues(Poly poly) {
    return powerOfGreatest(poly, FAR) - powerOfGreatest(poly, -FAR);
  }

  private static int powerOfGreatest(Poly poly, long x) {
    long height = poly.heightAt(x, 0, 1);
    for (int i = 0; i <= TOP_POWER; i++) {
      int cell = i * WIDTH;
      if (poly.has(cell) && poly.heightOf(cell, x, 0, 1) == height) {
        return i;
      }
    }
    return 0;
  }

  private int areaOf(Poly poly) {
    net.polygon.gatherAll(poly);
    net.polygon.wrap();
    return net.polygon.doubledArea();
  }

  private int areaAtCorner(Poly poly, int corner) {
    net.loadPolygon(poly, corner);
    return net.polygon.doubledArea();
  }

  private int areaByCorners(Poly poly) {
    int area = 0;
    for (int k = 0; k < net.count; k++) {
      net.loadPolygon(poly, k);
      area += net.polygon.doubledArea();
    }
    return area;
  }

  private boolean isSoundPoly(Poly poly) {
    net.build(poly);
    if (isOfXAlone(poly) && turnsByRoots() != turnsByValues(poly)) {
      return false;
    }
    for (int k = 0; k < net.count; k++) {
      net.loadPolygon(poly, k);
      if (!net.polygon.isClosed()) {
        return false;
      }
    }
    return areaByCorners(poly) == areaOf(poly);
  }

  private boolean isSoundMatrix(Matrix matrix) {
    cycles.findMean(matrix);
    int upper = cycles.upper;
    int lower = cycles.lower;
    cycles.tryAll(matrix);
    if (cycles.upper != upper || cycles.lower != lower) {
      return false;
    }
    cycles.prepare(matrix);
    return cycles.isMovedByMeanAlone(matrix);
  }

  private boolean hasRegularPart(Matrix matrix, int size) {
    for (int rowSet = 1; rowSet <= matrix.rowSet(); rowSet++) {
      if (Integer.bitCount(rowSet) != size) {
        continue;
      }
      assignments.load(matrix, rowSet);
      for (int columns = 1; columns <= matrix.rowSet(); columns++) {
        if (Integer.bitCount(columns) == size && assignments.waysWith(columns) == 1) {
          return true;
        }
      }
    }
    return false;
  }

  private static int firstUnlike(Matrix matrix) {
    for (int a = 0; a < matrix.rows; a++) {
      for (int b = a + 1; b < matrix.rows; b++) {
        for (int c = b + 1; c < matrix.rows; c++) {
          for (int d = c + 1; d < matrix.rows; d++) {
            if (isUnlikeTree(matrix, a, b, c, d)) {
              return a * 1000 + b * 100 + c * 10 + d;
            }
          }
        }
      }
    }
    return -1;
  }

  private static boolean isUnlikeTree(Matrix matrix, int a, int b, int c, int d) {
    int first = matrix.at(a, b) + matrix.at(c, d);
    int second = matrix.at(a, c) + matrix.at(b, d);
    int third = matrix.at(a, d) + matrix.at(b, c);
    int top = Math.max(first, Math.max(second, third));
    int times = (first == top ? 1 : 0) + (second == top ? 1 : 0) + (third == top ? 1 : 0);
    return times == 1;
  }

  /** Each column may be moved up only so far that it is nowhere above; where that reaches, the sum does. */
  private static boolean isReached(Matrix first, Matrix second, int column, int row) {
    int wanted = second.at(row, column);
    if (wanted == NOTHING) {
      return true;
    }
    for (int k = 0; k < first.rows; k++) {
      if (first.at(row, k) != NOTHING && isTightest(first, second, column, row, k)) {
        return true;
      }
    }
    return false;
  }

  private static boolean isTightest(Matrix first, Matrix second, int column, int row, int k) {
    int room = second.at(row, column) - first.at(row, k);
    for (int r = 0; r < first.rows; r++) {
      if (first.at(r, k) == NOTHING) {
        continue;
      }
      if (second.at(r, column) == NOTHING || second.at(r, column) - first.at(r, k) < room) {
        return false;
      }
    }
    return true;
  }

  private void writeTerm(int coefficient, int i, int j) {
    if (signCount > 0) {
      writeSign('+');
    }
    writeNumber(coefficient);
    for (int k = 0; k < i; k++) {
      writeSign('x');
    }
    for (int k = 0; k < j; k++) {
      writeSign('y');
    }
  }

  private void writeNumber(int number) {
    if (number < 0) {
      writeSign('-');
    }
    int size = Math.abs(number);
    boolean hasBegun = false;
    for (int unit = 1000000000; unit > 0; unit /= 10) {
      int digit = size / unit % 10;
      hasBegun = hasBegun || digit > 0 || unit == 1;
      if (hasBegun) {
        writeSign((char) ('0' + digit));
      }
    }
  }

  private void writeSign(char sign) {
    if (signCount < signs.length) {
      signs[signCount] = sign;
      signCount++;
    }
  }

  private static int joined(int one, int other) {
    return one == NOTHING || other == NOTHING ? NOTHING : one + other;
  }

  private static void multiply(int[] left, int[] right, int[] into) {
    if (left.length < PLACES || right.length < PLACES || into.length < PLACES) {
      return;
    }
    for (int row = 0; row < ROWS; row++) {
      for (int column = 0; column < ROWS; column++) {
        int best = NOTHING;
        for (int k = 0; k < ROWS; k++) {
          best = Math.max(best, joined(left[row * ROWS + k], right[k * ROWS + column]));
        }
        into[row * ROWS + column] = best;
      }
    }
  }

  /** Makes entries the greatest weights of ways of one entry or more; fit only if no cycle is above 0. */
  private static void closeWays(int[] ways) {
    if (ways.length < PLACES) {
      return;
    }
    for (int k = 0; k < ROWS; k++) {
      for (int row = 0; row < ROWS; row++) {
        for (int column = 0; column < ROWS; column++) {
          int by = joined(ways[row * ROWS + k], ways[k * ROWS + column]);
          ways[row * ROWS + column] = Math.max(ways[row * ROWS + column], by);
        }
      }
    }
  }

  /** Terms by cells: the power of x times 9, plus that of y. */
  private static final class Poly {
    private final int[] held = new int[CELLS];
    private int size;

    private Poly() {
      Arrays.fill(held, NOTHING);
    }

    private int at(int cell) {
      return cell < 0 || cell >= held.length ? NOTHING : held[cell];
    }

    private boolean has(int cell) {
      return cell >= 0 && cell < held.length && held[cell] != NOTHING;
    }

    private void join(int cell, int coefficient) {
      if (cell < 0 || cell >= held.length || coefficient == NOTHING) {
        return;
      }
      if (held[cell] == NOTHING) {
        size++;
      }
      held[cell] = Math.max(held[cell], coefficient);
    }

    private void takeOut(int cell) {
      if (has(cell)) {
        held[cell] = NOTHING;
        size--;
      }
    }

    private void becomeProduct(Poly first, Poly second) {
      Arrays.fill(held, NOTHING);
      size = 0;
      for (int one = 0; one < CELLS; one++) {
        for (int other = 0; first.has(one) && other < CELLS; other++) {
          if (second.has(other)) {
            int cell = cellOf(one / WIDTH + other / WIDTH, one % WIDTH + other % WIDTH);
            join(cell, first.at(one) + second.at(other));
          }
        }
      }
    }

    private int topX() {
      int top = 0;
      for (int cell = 0; cell < CELLS; cell++) {
        top = has(cell) ? Math.max(top, cell / WIDTH) : top;
      }
      return top;
    }

    private int topY() {
      int top = 0;
      for (int cell = 0; cell < CELLS; cell++) {
        top = has(cell) ? Math.max(top, cell % WIDTH) : top;
      }
      return top;
    }

    /** The value at x by d and y by d, times d, so that it stays whole. */
    private long heightOf(int cell, long x, long y, long d) {
      if (cell < 0 || cell >= held.length) {
        return LOWEST;
      }
      return held[cell] * d + cell / WIDTH * x + cell % WIDTH * y;
    }

    private long heightAt(long x, long y, long d) {
      long best = LOWEST;
      for (int cell = 0; cell < CELLS; cell++) {
        if (has(cell)) {
          best = Math.max(best, heightOf(cell, x, y, d));
        }
      }
      return best;
    }
  }

  /** Cells and the polygon round them, whose vertices go on so that it is at the right hand. */
  private static final class Polygon {
    private final int[] point = new int[CELLS];
    private int points;
    /** The way there and back holds each point at most twice. */
    private final int[] vertex = new int[2 * CELLS];
    private int vertices;

    private void gatherAll(Poly poly) {
      points = 0;
      for (int cell = 0; cell < CELLS; cell++) {
        if (poly.has(cell)) {
          addPoint(cell);
        }
      }
    }

    private void gatherGreatest(Poly poly, long x, long y, long d) {
      long height = poly.heightAt(x, y, d);
      points = 0;
      for (int cell = 0; cell < CELLS; cell++) {
        if (poly.has(cell) && poly.heightOf(cell, x, y, d) == height) {
          addPoint(cell);
        }
      }
    }

    private void addPoint(int cell) {
      if (points < point.length) {
        point[points] = cell;
        points++;
      }
    }

    private int pointAt(int index) {
      return index < 0 || index >= point.length ? 0 : point[index];
    }

    private int vertexAt(int index) {
      return index < 0 || index >= vertex.length ? 0 : vertex[index];
    }

    private int nextVertex(int index) {
      return index + 1 < vertices ? vertexAt(index + 1) : vertexAt(0);
    }

    /** Cells rise by x, then by y: so the way up and over comes first, the way back below it next. */
    private void wrap() {
      vertices = 0;
      for (int k = 0; k < points; k++) {
        pushVertex(pointAt(k), 0);
      }
      int floor = vertices - 1;
      for (int k = points - 2; k >= 0; k--) {
        pushVertex(pointAt(k), floor);
      }
      if (vertices > 1) {
        vertices--;
      }
    }

    private void pushVertex(int cell, int floor) {
      while (vertices - floor >= 2 && vertices >= 2
          && turnOf(vertexAt(vertices - 2), vertexAt(vertices - 1), cell) >= 0) {
        vertices--;
      }
      if (vertices >= 0 && vertices < vertex.length) {
        vertex[vertices] = cell;
        vertices++;
      }
    }

    private int doubledArea() {
      int area = 0;
      for (int k = 1; k + 1 < vertices; k++) {
        area += turnOf(vertexAt(0), vertexAt(k), vertexAt(k + 1));
      }
      return Math.abs(area);
    }

    private int sideX(int side) {
      return nextVertex(side) / WIDTH - vertexAt(side) / WIDTH;
    }

    private int sideY(int side) {
      return nextVertex(side) % WIDTH - vertexAt(side) % WIDTH;
    }

    private int sideWeight(int side) {
      return commonDivisor(sideX(side), sideY(side));
    }

    /** Whether the outward directions, at the left hand of the sides, sum to 0 with their weights. */
    private boolean isClosed() {
      int sumX = 0;
      int sumY = 0;
      for (int side = 0; side < vertices; side++) {
        int weight = sideWeight(side);
        if (weight == 0) {
          return false;
        }
        sumX += -sideY(side) / weight * weight;
        sumY += sideX(side) / weight * weight;
      }
      return sumX == 0 && sumY == 0;
    }
  }

  /** The corners of one polynomial, which of its terms are needed, and the sides of the corners' polygons. */
  private static final class Net {
    private final int[] cornerX = new int[CORNERS];
    private final int[] cornerY = new int[CORNERS];
    private final int[] cornerD = new int[CORNERS];
    private int count;
    private final boolean[] marked = new boolean[CELLS];
    private int outerSides;
    private int innerSides;
    private final Polygon polygon = new Polygon();
    private final int[] chain = new int[CELLS];

    private int xOf(int index) {
      return index < 0 || index >= cornerX.length ? 0 : cornerX[index];
    }

    private int yOf(int index) {
      return index < 0 || index >= cornerY.length ? 0 : cornerY[index];
    }

    private int dOf(int index) {
      return index < 0 || index >= cornerD.length ? 1 : cornerD[index];
    }

    private boolean isMarked(int cell) {
      return cell >= 0 && cell < marked.length && marked[cell];
    }

    private void mark(int cell) {
      if (cell >= 0 && cell < marked.length) {
        marked[cell] = true;
      }
    }

    private void loadPolygon(Poly poly, int index) {
      polygon.gatherGreatest(poly, xOf(index), yOf(index), dOf(index));
      polygon.wrap();
    }

    /** From one corner all others are come to over edges, as the net of a curve hangs together. */
    private void build(Poly poly) {
      count = 0;
      outerSides = 0;
      innerSides = 0;
      for (int cell = 0; cell < CELLS; cell++) {
        marked[cell] = false;
      }
      polygon.gatherAll(poly);
      polygon.wrap();
      if (polygon.vertices < 3) {
        markOnLine(poly);
        return;
      }
      findFirst(poly);
      for (int k = 0; k < count && k < CORNERS; k++) {
        followEdges(poly, k);
      }
      sortCorners();
    }

    /** On one line, the needed terms are where the coefficients over it bend. */
    private void markOnLine(Poly poly) {
      int length = 0;
      for (int k = 0; k < polygon.points; k++) {
        int cell = polygon.pointAt(k);
        while (length >= 2 && length <= chain.length
            && !isBend(poly, chain[length - 2], chain[length - 1], cell)) {
          length--;
        }
        if (length < chain.length) {
          chain[length] = cell;
          length++;
        }
      }
      for (int k = 0; k < length; k++) {
        mark(chain[k]);
      }
    }

    private static boolean isBend(Poly poly, int low, int middle, int high) {
      long before = (long) (poly.at(middle) - poly.at(low)) * stretchOf(low, high);
      long straight = (long) (poly.at(high) - poly.at(low)) * stretchOf(low, middle);
      return before > straight;
    }

    /** Along a side of the whole polygon, the steepest way from its end is a side of some corner's polygon. */
    private void findFirst(Poly poly) {
      int from = polygon.vertexAt(0);
      int end = polygon.vertexAt(1);
      int best = end;
      for (int cell = 0; cell < CELLS; cell++) {
        if (cell != from && poly.has(cell) && turnOf(from, end, cell) == 0
            && isSteeper(poly, from, best, cell)) {
          best = cell;
        }
      }
      addCorner(poly, from, best, cellBeyond(poly, from, best, RIGHT));
    }

    private static boolean isSteeper(Poly poly, int from, int best, int cell) {
      long rise = (long) (poly.at(cell) - poly.at(from)) * stretchOf(from, best);
      long bestRise = (long) (poly.at(best) - poly.at(from)) * stretchOf(from, cell);
      return rise > bestRise;
    }

    private void followEdges(Poly poly, int index) {
      polygon.gatherGreatest(poly, xOf(index), yOf(index), dOf(index));
      polygon.wrap();
      for (int side = 0; side < polygon.vertices; side++) {
        int from = polygon.vertexAt(side);
        int to = polygon.nextVertex(side);
        int beyond = cellBeyond(poly, from, to, LEFT);
        mark(from);
        if (beyond < 0) {
          outerSides++;
        } else {
          innerSides++;
          addCorner(poly, from, to, beyond);
        }
      }
    }

    /** A cell of the next polygon at one hand of a side; -1 if no term is there. */
    private static int cellBeyond(Poly poly, int from, int to, int hand) {
      int best = -1;
      for (int cell = 0; cell < CELLS; cell++) {
        if (poly.has(cell) && turnOf(from, to, cell) * hand > 0
            && (best < 0 || isAbovePlane(poly, from, to, best, cell))) {
          best = cell;
        }
      }
      return best;
    }

    /** Whether a cell's term is above the plane of three others; it and the third are at one hand of the first two. */
    private static boolean isAbovePlane(Poly poly, int from, int to, int third, int cell) {
      long along = poly.at(to) - poly.at(from);
      long aside = poly.at(third) - poly.at(from);
      long rise = poly.at(cell) - poly.at(from);
      long whole = turnOf(from, to, third);
      long plane = turnOf(from, cell, third) * along + turnOf(from, to, cell) * aside;
      return whole > 0 ? rise * whole > plane : rise * whole < plane;
    }

    private void addCorner(Poly poly, int from, int to, int third) {
      if (!poly.has(from) || !poly.has(to) || !poly.has(third)) {
        return;
      }
      long d = turnOf(from, to, third);
      long along = poly.at(from) - poly.at(to);
      long aside = poly.at(from) - poly.at(third);
      long x = along * (third % WIDTH - from % WIDTH) - aside * (to % WIDTH - from % WIDTH);
      long y = aside * (to / WIDTH - from / WIDTH) - along * (third / WIDTH - from / WIDTH);
      long shared = commonDivisor(commonDivisor(x, y), d);
      if (shared == 0) {
        return;
      }
      if (d < 0) {
        shared = -shared;
      }
      keepCorner((int) (x / shared), (int) (y / shared), (int) (d / shared));
    }

    private void keepCorner(int x, int y, int d) {
      for (int k = 0; k < count; k++) {
        if (xOf(k) == x && yOf(k) == y && dOf(k) == d) {
          return;
        }
      }
      if (count < CORNERS) {
        count++;
        putCorner(count - 1, x, y, d);
      }
    }

    private void putCorner(int index, int x, int y, int d) {
      if (index >= 0 && index < CORNERS) {
        cornerX[index] = x;
        cornerY[index] = y;
        cornerD[index] = d;
      }
    }

    private void sortCorners() {
      for (int k = 1; k < count; k++) {
        int x = xOf(k);
        int y = yOf(k);
        int d = dOf(k);
        int place = k;
        while (place > 0 && isBefore(x, y, d, place - 1)) {
          putCorner(place, xOf(place - 1), yOf(place - 1), dOf(place - 1));
          place--;
        }
        putCorner(place, x, y, d);
      }
    }

    private boolean isBefore(long x, long y, long d, int index) {
      long left = x * dOf(index);
      long right = xOf(index) * d;
      return left != right ? left < right : y * dOf(index) < yOf(index) * d;
    }
  }

  /** Entries by places: the row times 6, plus the column; there is nothing beyond the rows. */
  private static final class Matrix {
    private final int rows;
    private final int[] held = new int[PLACES];

    private Matrix(int rows) {
      this.rows = rows;
      Arrays.fill(held, NOTHING);
    }

    private boolean hasPlace(int row, int column) {
      return row >= 0 && row < rows && column >= 0 && column < rows;
    }

    private int at(int row, int column) {
      int place = row * ROWS + column;
      return !hasPlace(row, column) || place >= held.length ? NOTHING : held[place];
    }

    private void put(int row, int column, int entry) {
      int place = row * ROWS + column;
      if (hasPlace(row, column) && place < held.length) {
        held[place] = entry;
      }
    }

    private int filled() {
      int count = 0;
      for (int place = 0; place < PLACES; place++) {
        if (held[place] != NOTHING) {
          count++;
        }
      }
      return count;
    }

    /** All rows, and as a matrix is square, all columns, as bits. */
    private int rowSet() {
      return (1 << rows) - 1;
    }

    private boolean hasDistances() {
      for (int row = 0; row < rows; row++) {
        for (int column = row + 1; column < rows; column++) {
          if (at(row, column) == NOTHING) {
            return false;
          }
        }
      }
      return true;
    }
  }

  /** The greatest mean of a matrix, and the ways of its entries times the lower number, less the upper one. */
  private static final class Cycles {
    private int upper;
    /** 0 as long as no cycle is found. */
    private int lower;
    private final int[] power = new int[PLACES];
    private final int[] nextPower = new int[PLACES];
    private final int[] ways = new int[PLACES];

    private void offer(int sum, int length) {
      if (lower == 0 || (long) sum * lower > (long) upper * length) {
        upper = sum;
        lower = length;
      }
    }

    private void reduce() {
      int shared = commonDivisor(upper, lower);
      if (shared > 0) {
        upper /= shared;
        lower /= shared;
      }
    }

    /** A cycle that comes to a row twice falls apart into shorter ones, so as many entries as rows are enough. */
    private void findMean(Matrix matrix) {
      upper = 0;
      lower = 0;
      System.arraycopy(matrix.held, 0, power, 0, PLACES);
      for (int length = 1; length <= matrix.rows; length++) {
        for (int row = 0; row < ROWS; row++) {
          int back = power[row * ROWS + row];
          if (back != NOTHING) {
            offer(back, length);
          }
        }
        multiply(power, matrix.held, nextPower);
        System.arraycopy(nextPower, 0, power, 0, PLACES);
      }
      reduce();
    }

    private void tryAll(Matrix matrix) {
      upper = 0;
      lower = 0;
      for (int row = 0; row < matrix.rows; row++) {
        tryFrom(this, matrix, row, row, 1 << row, 0, 1);
      }
      reduce();
    }

    /** Goes on from the last row of a way; a cycle is tried from its lowest row alone. */
    private static void tryFrom(Cycles found, Matrix matrix, int first, int last, int seen, int sum, int length) {
      if (length > ROWS) {
        return;
      }
      for (int next = first; next < matrix.rows; next++) {
        int entry = matrix.at(last, next);
        if (entry == NOTHING) {
          continue;
        }
        if (next == first) {
          found.offer(sum + entry, length);
        } else if ((seen >> next & 1) == 0) {
          tryFrom(found, matrix, first, next, seen | 1 << next, sum + entry, length + 1);
        }
      }
    }

    private int scaled(int entry) {
      return entry == NOTHING ? NOTHING : entry * lower - upper;
    }

    private void prepare(Matrix matrix) {
      findMean(matrix);
      for (int place = 0; place < PLACES; place++) {
        ways[place] = scaled(matrix.held[place]);
      }
      closeWays(ways);
    }

    /** Without the mean, a row is on a cycle of the greatest one just if it comes back to itself at 0. */
    private int criticalBits() {
      int bits = 0;
      for (int row = 0; row < ROWS && lower > 0; row++) {
        if (ways[row * ROWS + row] == 0) {
          bits |= 1 << row;
        }
      }
      return bits;
    }

    private int eigenEntry(Matrix matrix, int row) {
      int column = lowestCritical();
      int place = row * ROWS + column;
      if (!matrix.hasPlace(row, column) || place >= ways.length) {
        return NOTHING;
      }
      return row == column ? Math.max(0, ways[place]) : ways[place];
    }

    private int lowestCritical() {
      int bits = criticalBits();
      for (int row = 0; row < ROWS; row++) {
        if ((bits >> row & 1) == 1) {
          return row;
        }
      }
      return -1;
    }

    private boolean isMovedByMeanAlone(Matrix matrix) {
      for (int row = 0; row < matrix.rows && lower > 0; row++) {
        int best = NOTHING;
        for (int column = 0; column < matrix.rows; column++) {
          best = Math.max(best, joined(scaled(matrix.at(row, column)), eigenEntry(matrix, column)));
        }
        if (best != eigenEntry(matrix, row)) {
          return false;
        }
      }
      return true;
    }
  }

  /** The greatest weights by which the last of some rows have just the columns of a set, and how often, up to 2. */
  private static final class Assignments {
    private final int[] best = new int[COLUMN_SETS];
    private final int[] ways = new int[COLUMN_SETS];
    private final int[] chosenRows = new int[ROWS];

    private int bestWith(int columns) {
      return columns < 0 || columns >= best.length ? NOTHING : best[columns];
    }

    private int waysWith(int columns) {
      return columns < 0 || columns >= ways.length ? 0 : ways[columns];
    }

    private void load(Matrix matrix, int rowSet) {
      int count = 0;
      for (int row = 0; row < ROWS; row++) {
        if ((rowSet >> row & 1) == 1 && count < chosenRows.length) {
          chosenRows[count] = row;
          count++;
        }
      }
      best[0] = 0;
      ways[0] = 1;
      for (int columns = 1; columns <= matrix.rowSet() && columns < COLUMN_SETS; columns++) {
        int place = count - Integer.bitCount(columns);
        best[columns] = NOTHING;
        ways[columns] = 0;
        if (place >= 0 && place < chosenRows.length) {
          join(matrix, chosenRows[place], columns);
        }
      }
    }

    private void join(Matrix matrix, int row, int columns) {
      if (columns < 0 || columns >= best.length || columns >= ways.length) {
        return;
      }
      for (int column = 0; column < matrix.rows; column++) {
        if ((columns >> column & 1) == 0) {
          continue;
        }
        int rest = columns ^ 1 << column;
        int sum = joined(matrix.at(row, column), bestWith(rest));
        if (sum > best[columns]) {
          best[columns] = sum;
          ways[columns] = waysWith(rest);
        } else if (sum != NOTHING && sum == best[columns]) {
          ways[columns] = Math.min(2, ways[columns] + waysWith(rest));
        }
      }
    }

    /** Fit for a matrix that was loaded with all its rows. */
    private int firstColumn(Matrix matrix, int wanted) {
      int left = matrix.rowSet();
      for (int row = 0; row < matrix.rows; row++) {
        int column = lowestFit(matrix, row, left);
        if (row == wanted) {
          return column;
        }
        left &= ~(1 << column);
      }
      return 0;
    }

    private int lowestFit(Matrix matrix, int row, int left) {
      for (int column = 0; column < matrix.rows; column++) {
        if ((left >> column & 1) == 1) {
          int sum = joined(matrix.at(row, column), bestWith(left ^ 1 << column));
          if (sum != NOTHING && sum == bestWith(left)) {
            return column;
          }
        }
      }
      return 0;
    }
  }

  /** Times of events beside those that they would have without delays. */
  private static final class Timetable {
    private final int[] held = new int[PLACES];
    /** 0 as long as none has begun. */
    private int events;
    private final int[] times = new int[ROWS];
    private final int[] timesOfPunctual = new int[ROWS];
    private final int[] trial = new int[ROWS];
    private final int[] trialOfPunctual = new int[ROWS];
    private final int[] next = new int[ROWS];

    private void restart(Matrix matrix) {
      System.arraycopy(matrix.held, 0, held, 0, PLACES);
      events = matrix.rows;
      Arrays.fill(times, 0);
      Arrays.fill(timesOfPunctual, 0);
    }

    private int timeOf(int event) {
      return event < 0 || event >= times.length ? 0 : times[event];
    }

    private int lateness(int event) {
      return event < 0 || event >= timesOfPunctual.length ? 0 : timeOf(event) - timesOfPunctual[event];
    }

    private void moveTo(int event, int then) {
      if (event >= 0 && event < times.length) {
        times[event] = then;
      }
    }

    /** Tries the rounds beside the times, as a time out of range must leave all as it was. */
    private boolean pass(int rounds) {
      System.arraycopy(times, 0, trial, 0, ROWS);
      System.arraycopy(timesOfPunctual, 0, trialOfPunctual, 0, ROWS);
      for (int round = 0; round < rounds; round++) {
        if (!passOne(trial) || !passOne(trialOfPunctual)) {
          return false;
        }
      }
      System.arraycopy(trial, 0, times, 0, ROWS);
      System.arraycopy(trialOfPunctual, 0, timesOfPunctual, 0, ROWS);
      return true;
    }

    private boolean passOne(int[] clock) {
      for (int event = 0; event < ROWS && event < clock.length; event++) {
        int best = NOTHING;
        for (int other = 0; other < ROWS && other < clock.length; other++) {
          best = Math.max(best, joined(held[event * ROWS + other], clock[other]));
        }
        next[event] = best == NOTHING ? clock[event] : best;
        if (!isWithin(next[event], TOP_TIME)) {
          return false;
        }
      }
      System.arraycopy(next, 0, clock, 0, ROWS);
      return true;
    }
  }
}
