import java.math.BigInteger;

/** The sentences on writing and figures, promises 50 to 55, and the bound on calls. */
final class EdgesOfFigures extends Edges {
  private static final String POLY = "`poly`: the number of the polynomial";
  private static final String MATRIX = "`matrix`: the number of the matrix";

  static void run() {
    write();
    sign();
    print();
    printWrapsAround();
    neededShare();
    meanOf();
    isSound();
    lastCalls();
  }

  /** A polynomial 9 that is written as long as one can be: 81 terms of six figures and a minus each. */
  private static Bench longest() {
    Bench made = new Bench().poly("0 0 -999");
    for (int number = 0; number < 4; number++) {
      made.make("product(" + number + ", " + number + ")");
    }
    made.poly("0 0 -999", "1 0 -999", "0 1 -999", "1 1 -999").make("product(5, 4)");
    for (int number = 6; number < 9; number++) {
      made.make("product(" + number + ", " + number + ")");
    }
    return made.due(81, "terms(9)").due(-135864, "coefficient(9, 0, 0)");
  }

  private static void write() {
    promise(50, "Writes a polynomial: its terms by falling powers of x, then of y, with a + between two, whatever their "
        + "signs; a term is its coefficient, and x and y as often as their powers.");
    new Bench().poly("0 0 -999", "0 2 10", "3 1 -7", "3 0 100", "1 2 0")
        .writes(0, "-7xxxy+100xxx+0xyy+10yy+-999").poly("0 0 -1", "0 1 1").writes(1, "1y+-1").poly("8 8 -10")
        .writes(2, "-10xxxxxxxxyyyyyyyy").writes(0, "-7xxxy+100xxx+0xyy+10yy+-999");
    polyNumbers(50, POLY, "write(@)", TRIANGLE);
    promise(50, "Returns the number of signs.");
    new Bench().make("poly()").due(0, "write(0)").make("term(0, 0, 0, 0)").due(1, "write(0)")
        .make("term(0, 8, 8, -999)").due(22, "write(0)").make("drop(0, 0, 0)").due(20, "write(0)")
        .make("drop(0, 8, 8)").due(0, "write(0)");
    longest().due(1295, "write(9)").due('-', "sign(0)").due('1', "sign(1)").due('y', "sign(22)").due('+', "sign(23)")
        .due('+', "sign(1287)").due('4', "sign(1294)").refused(MISSING, "sign(1295)").due(4, "write(0)");
  }

  private static void sign() {
    promise(51, "Returns a sign of what was written last.");
    new Bench().poly("0 0 12").poly("1 0 -3").make("write(0)").dueAll("sign(@)", '1', '2').make("write(1)")
        .dueAll("sign(@)", '-', '3', 'x').make("term(1, 1, 0, 5)", "drop(0, 0, 0)").dueAll("sign(@)", '-', '3', 'x')
        .make("write(0)").refused(MISSING, "sign(0)").make("write(1)").dueAll("sign(@)", '5', 'x')
        .refused(INDEX, "write(2)").dueAll("sign(@)", '5', 'x').refused(MISSING, "sign(2)");
    promise(51, "`index`: the index, from 0");
    new Bench().poly("0 0 999", "8 0 1").make("write(0)").due('1', "sign(0)").due('9', "sign(12)")
        .outside(MISSING, "sign(@)", 0, 12);
    promise(51, "Returns the sign.");
    new Bench().poly("1 1 -20", "0 0 0").make("write(0)").dueAll("sign(@)", '-', '2', '0', 'x', 'y', '+', '0');
    promise(51, "Throws `NoSuchElementException` if there is no such sign");
    new Bench().outside(MISSING, "sign(@)", 0, -1).make("poly()").refused(MISSING, "sign(0)").due(0, "write(0)")
        .refused(MISSING, "sign(0)").refused(MISSING, "sign(-1)").make("term(0, 0, 0, 7)").refused(MISSING, "sign(0)")
        .due(1, "write(0)").due('7', "sign(0)").refused(MISSING, "sign(1)").refused(MISSING, "sign(-1)");
  }

  private static void print() {
    promise(52, "Returns the print of all polynomials and matrices.");
    new Bench().poly("1 0 5", "0 2 -3").make("poly()").matrix(". -4", "6 .")
        .due(((((((((7L * 31 - 3) * 31 + 5) * 31 * 31) * 31 + 1) * 31 - 8) * 31 + 12) * 31 + 1) * 31), "print()")
        .make("write(0)", "begin(0)", "go(1)", "delay(0, 3)")
        .due(((((((((7L * 31 - 3) * 31 + 5) * 31 * 31) * 31 + 1) * 31 - 8) * 31 + 12) * 31 + 1) * 31), "print()");
    promise(52, "Returns 7 at first, then, for each polynomial, and each of its terms by rising powers of x, then of y, "
        + "31 times itself plus the coefficient, and 31 times itself once more behind each polynomial; then likewise "
        + "for each matrix, row by row, 1 for nothing and twice the entry else, and 31 times itself behind each matrix.");
    new Bench().due(7L, "print()").make("poly()").due(217L, "print()").make("term(0, 0, 0, 0)").due(6727L, "print()")
        .make("term(0, 0, 0, 2)").due(6789L, "print()").make("term(0, 1, 0, -1)").due((219L * 31 - 1) * 31, "print()")
        .make("term(0, 0, 1, 4)").due(((219L * 31 + 4) * 31 - 1) * 31, "print()").make("drop(0, 0, 0)", "drop(0, 0, 1)")
        .due(216L * 31, "print()").make("poly()").due(216L * 31 * 31, "print()");
    new Bench().make("matrix(1)").due((7L * 31 + 1) * 31, "print()").make("set(0, 0, 0, 0)").due(7L * 31 * 31, "print()")
        .make("set(0, 0, 0, -999)").due((7L * 31 - 1998) * 31, "print()").make("clear(0, 0, 0)")
        .due((7L * 31 + 1) * 31, "print()").make("poly()").due((7L * 31 * 31 + 1) * 31, "print()");
    new Bench().matrix("1 2", "3 .").due(((((7L * 31 + 2) * 31 + 4) * 31 + 6) * 31 + 1) * 31, "print()");
  }

  /** Counts as the sentence says, with no bound, and is cut to a long only at last. */
  private static final class Count {
    private BigInteger held = BigInteger.valueOf(7);

    private Count add(long... numbers) {
      for (long number : numbers) {
        held = held.multiply(BigInteger.valueOf(31)).add(BigInteger.valueOf(number));
      }
      return this;
    }

    private boolean isTooLong() {
      return held.bitLength() > 63;
    }
  }

  private static void printWrapsAround() {
    promise(52, "Returns 7 at first");
    Bench polys = new Bench().makeTimes(10, "poly()").make("matrix(1)").due(5513639486519848358L, "print()")
        .make("matrix(1)").due(4391997390932958277L, "print()").make("matrix(1)").due(-3594900192914415836L, "print()")
        .refused(STATE, "poly()").refused(ARGUMENT, "set(2, 0, 0, 1000)").due(-3594900192914415836L, "print()");
    polys.make("set(0, 0, 0, 1)").due(-3594900192914415836L + 31L * 31 * 31 * 31 * 31, "print()");
    Bench high = new Bench().make("poly()");
    Bench low = new Bench().make("poly()");
    Count ofHigh = new Count();
    Count ofLow = new Count();
    for (int cell = 0; cell < 81; cell++) {
      high.make("term(0, " + cell / 9 + ", " + cell % 9 + ", 999)").due(ofHigh.add(999).held.longValue() * 31, "print()");
      low.make("term(0, " + cell / 9 + ", " + cell % 9 + ", -999)").due(ofLow.add(-999).held.longValue() * 31, "print()");
    }
    check(ofHigh.isTooLong() && ofLow.isTooLong(), "the prints leave the range of a long");
    high.due(ofHigh.add(0).held.longValue(), "print()");
    Bench thirteen = new Bench().make("poly()");
    long[] prints = {37696L, 1199545L, 37216864L, 1153753753L, 35766397312L, 1108758347641L, 34371508807840L,
        1065516773074009L, 33031019965325248L, 1023961618925113657L, -5150677960740548896L, 6349679880428979737L,
        -6074108517506664960L};
    for (int cell = 0; cell < 13; cell++) {
      thirteen.make("term(0, " + cell / 9 + ", " + cell % 9 + ", 999)").due(prints[cell], "print()");
    }
    thirteen.refused(ARGUMENT, "term(0, 8, 8, 1000)").refused(MISSING, "drop(0, 8, 8)")
        .due(-6074108517506664960L, "print()");
    allMatrices();
  }

  private static void allMatrices() {
    Bench made = new Bench();
    Count count = new Count();
    for (int number = 0; number < 12; number++) {
      made.make("matrix(6)");
      for (int place = 0; place < 36; place++) {
        boolean isFilled = place % 9 == number % 9;
        if (isFilled) {
          made.make("set(" + number + ", " + place / 6 + ", " + place % 6 + ", -999)");
        }
        count.add(isFilled ? -1998 : 1);
      }
      count.add(0);
    }
    made.due(count.held.longValue(), "print()").refused(STATE, "matrix(1)").due(count.held.longValue(), "print()");
  }

  private static void neededShare() {
    promise(53, "Returns the share of terms that are needed.");
    new Bench().poly("0 0 0", "1 0 0", "2 0 0", "0 1 0").due(0.75f, "neededShare(0)");
    polyNumbers(53, POLY, "neededShare(@)", TRIANGLE);
    promise(53, "Returns their number divided by that of all, both converted to float.");
    new Bench().poly("0 0 0", "1 0 0", "2 0 0").due(2f / 3f, "neededShare(0)").make("drop(0, 1, 0)")
        .due(1f, "neededShare(0)").make("drop(0, 2, 0)").due(1f, "neededShare(0)");
    Bench flat = new Bench().make("poly()");
    for (int cell = 0; cell < 81; cell++) {
      flat.make("term(0, " + cell / 9 + ", " + cell % 9 + ", 0)");
    }
    flat.due(4f / 81f, "neededShare(0)").make("term(0, 4, 4, 1)").due(5f / 81f, "neededShare(0)");
    promise(53, "Throws `ArithmeticException` if it has none");
    new Bench().make("poly()").refused(ARITHMETIC, "neededShare(0)").refused(INDEX, "neededShare(1)")
        .refused(INDEX, "neededShare(-1)").make("term(0, 0, 0, -999)").due(1f, "neededShare(0)").make("drop(0, 0, 0)")
        .refused(ARITHMETIC, "neededShare(0)");
  }

  private static void meanOf() {
    promise(54, "Returns the greatest mean of a cycle.");
    new Bench().matrix(". 2", "3 .").due(2.5, "meanOf(0)").make("set(0, 1, 1, 3)").due(3.0, "meanOf(0)");
    matrixNumbers(54, MATRIX, "meanOf(@)", "-1 0", "-2 -3");
    promise(54, "Returns its upper number divided by its lower one, both converted to double.");
    new Bench().matrix(". 1 .", ". . 0", "0 . .").due(1.0 / 3.0, "meanOf(0)").make("set(0, 0, 1, -2)")
        .due(-2.0 / 3.0, "meanOf(0)").make("set(0, 0, 1, 0)").due(0.0, "meanOf(0)").make("set(0, 0, 0, 999)")
        .due(999.0, "meanOf(0)");
    new Bench().matrix("-999").due(-999.0, "meanOf(0)");
    new Bench().matrix(". 999 . . . .", ". . 999 . . .", ". . . 999 . .", ". . . . 999 .", ". . . . . 999",
        "998 . . . . .").due(5993.0 / 6.0, "meanOf(0)");
    promise(54, "Throws `NoSuchElementException` if there is no cycle");
    new Bench().matrix(". 1 2", ". . 3", ". . .").refused(MISSING, "meanOf(0)").refused(INDEX, "meanOf(1)")
        .refused(INDEX, "meanOf(-1)").make("set(0, 2, 2, -999)").due(-999.0, "meanOf(0)");
    new Bench().make("matrix(1)").refused(MISSING, "meanOf(0)");
  }

  private static void isSound() {
    promise(55, "Checks the garden: corners are balanced, their areas sum to that of the polygon, turns are those found "
        + "anew; means are those of cycles tried; eigenvectors, times their matrix, are moved by the mean alone.");
    Bench all = new Bench().poly("0 0 0", "3 0 0", "0 3 0", "1 1 5", "2 2 -999").poly("0 0 4", "2 0 5", "1 0 1", "5 0 0")
        .matrix(". 2 .", ". 0 3", "-4 . .").matrix("5 .", "1 2").due(true, "isSound()").make("product(0, 1)", "sum(0, 2)")
        .due(true, "isSound()").make("times(0, 0)", "plus(0, 2)", "begin(0)", "go(5)", "delay(1, 9)", "write(0)")
        .due(true, "isSound()").dueAll("late(@)", 0, 9, 0).due('0', "sign(0)");
    all.refused(INDEX, "terms(9)").due(true, "isSound()");
    promise(55, "Returns true if so.");
    new Bench().due(true, "isSound()").make("poly()").due(true, "isSound()").make("term(0, 8, 8, -999)")
        .due(true, "isSound()").make("term(0, 0, 8, 1)", "term(0, 8, 0, 1)").due(true, "isSound()").make("matrix(6)")
        .due(true, "isSound()").make("set(0, 5, 0, 999)").due(true, "isSound()").make("set(0, 0, 5, -999)")
        .due(true, "isSound()");
    longest().due(true, "isSound()");
    new Bench().poly("0 0 0", "1 0 -1", "2 0 -4", "3 0 -9", "4 0 -16", "5 0 -25", "6 0 -36", "7 0 -49", "8 0 -64")
        .due(8, "roots(0)").due(8, "turnsAnew(0)").due(true, "isSound()").make("drop(0, 0, 0)").due(true, "isSound()");
    Bench full = new Bench();
    for (int number = 0; number < 10; number++) {
      full.poly("0 0 0", "1 0 " + number, "0 1 " + -number, "2 3 5", "8 8 -999", "4 1 9");
    }
    for (int number = 0; number < 12; number++) {
      full.matrix(". " + number + " -4", "2 . .", "7 " + -number + " -9");
    }
    full.due(true, "isSound()");
    new Bench().matrix("5 2", "1 7").matrix(". 3", ". .").matrix("-9").matrix(".").due(true, "isSound()")
        .due(7, "mean(0, false)").due(true, "isSound()").due(-9, "meanAnew(2, false)").due(true, "isSound()");
  }

  /** Makes a call until it is the 512th, and looks at what that one answers. */
  private static void lastOf(Bench made, int before, String call, Object want) {
    made.makeTimes(Bench.MOST_CALLS - 1 - before, call).due(want, call);
  }

  private static void lastCalls() {
    terms("An object is used for at most 512 calls after it has been made; what later calls answer is free.");
    lastOf(new Bench(), 0, "print()", 7L);
    lastOf(new Bench(), 0, "isSound()", true);
    lastOf(new Bench().poly("0 0 0", "1 0 0", "0 1 0"), 4, "corners(0)", 1);
    lastOf(new Bench().poly("0 0 0", "1 0 0", "0 1 0"), 4, "meetAnew(0, 0)", 1);
    lastOf(new Bench().poly("0 0 0", "2 0 3"), 3, "root(0, 0, 'n')", -3);
    lastOf(new Bench().poly("0 0 0", "2 0 3"), 3, "isSame(0, 0)", true);
    lastOf(new Bench().poly("3 0 5"), 2, "write(0)", 4);
    lastOf(new Bench().poly("3 0 5").make("write(0)"), 3, "sign(3)", 'x');
    lastOf(new Bench().poly("3 0 5"), 2, "term(0, 3, 0, 4)", 1);
    lastOf(new Bench().matrix("0 1", "-2 0"), 5, "rank(0)", 2);
    lastOf(new Bench().matrix("0 1", "-2 0"), 5, "eigen(0, 1)", -2);
    lastOf(new Bench().matrix("0 1", "-2 0"), 5, "clear(0, 1, 1)", 3);
    lastOf(new Bench().matrix("1 .", ". .").make("begin(0)"), 3, "go(1)", 0);
    lastOf(new Bench().matrix("0").make("begin(0)"), 3, "delay(0, 999)", 509 * 999);
    Bench grid = new Bench().make("poly()");
    for (int cell = 0; cell < 81; cell++) {
      int i = cell / 9;
      int j = cell % 9;
      grid.make("term(0, " + i + ", " + j + ", " + -(2 * i * i + i * j + 2 * j * j) + ")");
    }
    lastOf(grid, 82, "genus(0)", 49);
    terms("Nothing is promised beyond the answers and state changes described above, and nothing about an object after "
        + "its 512th call.");
    Bench refusals = new Bench().makeTimes(10, "poly()").makeTimes(12, "matrix(6)");
    for (int call = 22; call < Bench.MOST_CALLS - 2; call++) {
      refusals.onlyThrows(STATE, call % 4 == 0 ? "times(0, 0)" : call % 4 == 1 ? "star(0)" : call % 4 == 2 ? "plus(1, 0)"
          : "product(0, 0)");
    }
    refusals.onlyThrows(STATE, "poly()").due(0, "terms(9)");
  }
}
