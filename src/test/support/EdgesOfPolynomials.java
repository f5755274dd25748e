/** The sentences on polynomials as functions and as expressions: promises 1 to 13. */
final class EdgesOfPolynomials extends Edges {
  private static final String POLY = "`poly`: the number of the polynomial";
  private static final String I = "`i`: the power of x";
  private static final String J = "`j`: the power of y";
  private static final String NO_TERM = "Throws `NoSuchElementException` if there is none";
  private static final String OUT_OF_RANGE = "Throws `IllegalArgumentException` if a number is out of range";

  static void run() {
    newObject();
    poly();
    term();
    drop();
    terms();
    coefficient();
    value();
    greatest();
    sum();
    product();
    isNeeded();
    neededEdges();
    needed();
    isSame();
    limits();
    words();
  }

  private static void newObject() {
    promise(1, "Creates a garden without polynomials and matrices.");
    new Bench().due(7L, "print()").due(true, "isSound()").refused(INDEX, "terms(0)").refused(INDEX, "rank(0)")
        .refused(STATE, "time(0)").refused(STATE, "go(1)").refused(MISSING, "sign(0)")
        .due(0, "poly()").due(0, "matrix(1)");
  }

  private static void poly() {
    promise(2, "Makes a polynomial without terms.");
    new Bench().make("poly()").due(0, "terms(0)").due(0, "needed(0)").due(0, "area(0)").due(0, "write(0)")
        .refused(MISSING, "coefficient(0, 0, 0)").refused(MISSING, "coefficient(0, 8, 8)");
    new Bench().poly("1 1 1").make("poly()").due(0, "terms(1)").due(1, "terms(0)");
    promise(2, "Returns its number.");
    new Bench().due(0, "poly()").due(1, "poly()").due(2, "sum(0, 1)").due(3, "product(0, 1)").due(4, "poly()")
        .make("matrix(2)").due(5, "poly()");
    promise(2, "Throws `IllegalStateException` if there are 10");
    Bench garden = new Bench();
    for (int number = 0; number < 10; number++) {
      garden.due(number, "poly()");
    }
    garden.refused(STATE, "poly()").refused(STATE, "poly()");
    new Bench().makeTimes(8, "poly()").due(8, "product(0, 0)").due(9, "sum(0, 0)").refused(STATE, "poly()");
    new Bench().makeTimes(12, "matrix(1)").due(0, "poly()");
  }

  private static void term() {
    promise(3, "Puts a term into a polynomial.");
    new Bench().make("poly()", "poly()").refused(MISSING, "coefficient(1, 8, 0)").due(1, "term(1, 8, 0, -7)")
        .due(-7, "coefficient(1, 8, 0)").due(0, "terms(0)").refused(MISSING, "coefficient(1, 0, 8)");
    polyNumbers(3, POLY, "term(@, 4, 4, 1)", TRIANGLE);
    promise(3, I);
    new Bench().make("poly()").due(1, "term(0, 0, 3, 4)").due(2, "term(0, 8, 3, 5)").due(4, "coefficient(0, 0, 3)")
        .due(5, "coefficient(0, 8, 3)").outside(ARGUMENT, "term(0, @, 3, 4)", 0, 8);
    promise(3, J);
    new Bench().make("poly()").due(1, "term(0, 3, 0, 4)").due(2, "term(0, 3, 8, 5)").due(4, "coefficient(0, 3, 0)")
        .due(5, "coefficient(0, 3, 8)").outside(ARGUMENT, "term(0, 3, @, 4)", 0, 8);
    promise(3, "`coefficient`: -999 to 999");
    new Bench().make("poly()").due(1, "term(0, 0, 0, -999)").due(-999, "coefficient(0, 0, 0)")
        .due(2, "term(0, 1, 0, 999)").due(999, "coefficient(0, 1, 0)")
        .outside(ARGUMENT, "term(0, 0, 1, @)", -999, 999).outside(ARGUMENT, "term(0, 0, 0, @)", -999, 999);
    promise(3, "Returns how many terms it has.");
    new Bench().make("poly()").due(1, "term(0, 0, 0, 1)").due(2, "term(0, 0, 1, 1)").due(2, "term(0, 0, 1, 5)")
        .due(2, "term(0, 0, 1, -5)").due(3, "term(0, 1, 0, 0)");
    fullSquare();
    promise(3, OUT_OF_RANGE);
    new Bench().make("poly()").refused(ARGUMENT, "term(0, 9, 9, 1000)").refused(ARGUMENT, "term(0, -1, -1, -1000)")
        .refused(ARGUMENT, "term(0, -1, 9, 0)").refused(ARGUMENT, "term(0, 9, -9, 0)")
        .refused(INDEX, "term(1, 9, 0, 0)").refused(INDEX, "term(1, 0, 9, 0)").refused(INDEX, "term(-1, 0, 0, 1000)")
        .due(1, "term(0, 8, 8, 0)");
  }

  private static void fullSquare() {
    Bench garden = new Bench().make("poly()");
    for (int cell = 0; cell < 81; cell++) {
      garden.due(cell + 1, "term(0, " + cell / 9 + ", " + cell % 9 + ", 0)");
    }
    garden.due(81, "terms(0)").due(81, "term(0, 0, 0, 5)").due(81, "term(0, 8, 8, -5)")
        .due(5, "coefficient(0, 0, 0)").due(0, "coefficient(0, 8, 8)").outside(ARGUMENT, "term(0, @, 0, 0)", 0, 8);
  }

  private static void drop() {
    promise(4, "Takes a term out of a polynomial.");
    new Bench().poly("0 0 1", "8 8 2").poly("0 0 3").due(2, "drop(0, 8, 8)").due(1, "terms(0)")
        .refused(MISSING, "coefficient(0, 8, 8)").due(1, "drop(0, 0, 0)").due(0, "terms(0)")
        .refused(MISSING, "value(0, 0, 0)").due(3, "coefficient(1, 0, 0)").due(1, "term(0, 0, 0, -9)")
        .due(-9, "coefficient(0, 0, 0)");
    polyNumbers(4, POLY, "drop(@, 0, 0)", TRIANGLE);
    promise(4, I);
    new Bench().poly("0 4 1", "8 4 2").outside(MISSING, "drop(0, @, 4)", 0, 8).due(1, "drop(0, 0, 4)")
        .due(2, "drop(0, 8, 4)");
    promise(4, J);
    new Bench().poly("4 0 1", "4 8 2").outside(MISSING, "drop(0, 4, @)", 0, 8).due(1, "drop(0, 4, 0)")
        .due(2, "drop(0, 4, 8)");
    promise(4, "Returns its coefficient.");
    new Bench().poly("1 2 -999", "2 1 999", "3 3 0").due(0, "drop(0, 3, 3)").due(999, "drop(0, 2, 1)")
        .due(-999, "drop(0, 1, 2)");
    new Bench().poly("1 1 4", "1 1 3", "1 1 6").due(6, "drop(0, 1, 1)").due(0, "terms(0)");
    promise(4, NO_TERM);
    new Bench().poly("0 0 1", "1 0 1", "0 8 1").make("poly()").refused(MISSING, "drop(0, 1, 1)")
        .refused(MISSING, "drop(1, 0, 0)").refused(MISSING, "drop(0, 0, 9)").refused(MISSING, "drop(0, 1, -1)")
        .refused(MISSING, "drop(0, 1, -9)").refused(INDEX, "drop(2, 1, 1)").refused(INDEX, "drop(-1, 9, 9)")
        .due(1, "drop(0, 1, 0)").refused(MISSING, "drop(0, 1, 0)");
  }

  private static void terms() {
    promise(5, "Returns how many terms a polynomial has.");
    new Bench().make("poly()").poly("0 0 0", "0 1 0", "0 1 1").due(0, "terms(0)").due(2, "terms(1)");
    polyNumbers(5, POLY, "terms(@)", TRIANGLE);
    promise(5, "Returns the number of terms.");
    new Bench().poly("0 0 0", "1 0 -999", "2 0 0").due(3, "terms(0)").make("drop(0, 2, 0)").due(2, "terms(0)")
        .make("drop(0, 0, 0)", "drop(0, 1, 0)").due(0, "terms(0)");
  }

  private static void coefficient() {
    promise(6, "Returns the coefficient of a term.");
    new Bench().poly("0 0 -1", "0 1 2", "1 0 3").due(-1, "coefficient(0, 0, 0)").due(2, "coefficient(0, 0, 1)")
        .due(3, "coefficient(0, 1, 0)");
    polyNumbers(6, POLY, "coefficient(@, 0, 0)", TRIANGLE);
    promise(6, I);
    new Bench().poly("0 4 1", "8 4 2").due(1, "coefficient(0, 0, 4)").due(2, "coefficient(0, 8, 4)")
        .outside(MISSING, "coefficient(0, @, 4)", 0, 8);
    promise(6, J);
    new Bench().poly("4 0 1", "4 8 2").due(1, "coefficient(0, 4, 0)").due(2, "coefficient(0, 4, 8)")
        .outside(MISSING, "coefficient(0, 4, @)", 0, 8);
    promise(6, "Returns the coefficient.");
    new Bench().poly("8 8 -999", "0 8 999").due(-999, "coefficient(0, 8, 8)").due(999, "coefficient(0, 0, 8)");
    promise(6, NO_TERM);
    new Bench().poly("1 0 0", "2 8 0").make("poly()").refused(MISSING, "coefficient(0, 0, 0)")
        .refused(MISSING, "coefficient(1, 1, 0)").refused(MISSING, "coefficient(0, 0, 9)")
        .refused(MISSING, "coefficient(0, 3, -1)").refused(MISSING, "coefficient(0, 2, -9)")
        .refused(INDEX, "coefficient(2, 0, 0)").refused(INDEX, "coefficient(-1, 9, 9)");
  }

  private static void value() {
    promise(7, "Returns the value of a polynomial.");
    new Bench().poly("0 0 4", "2 1 -3", "1 1 0").due(4, "value(0, 0, 0)").due(22, "value(0, 10, 5)")
        .due(4, "value(0, -2, 6)").due(5, "value(0, -2, 7)");
    polyNumbers(7, POLY, "value(@, 1, 2)", TRIANGLE);
    String edge = "8 0 0";
    promise(7, "`x`: -9999 to 9999");
    new Bench().poly(edge).due(8 * 9999, "value(0, 9999, 0)").due(-8 * 9999, "value(0, -9999, 0)")
        .outside(ARGUMENT, "value(0, @, 0)", -9999, 9999);
    promise(7, "`y`: -9999 to 9999");
    new Bench().poly("0 8 0").due(8 * 9999, "value(0, 0, 9999)").due(-8 * 9999, "value(0, 0, -9999)")
        .outside(ARGUMENT, "value(0, 0, @)", -9999, 9999);
    promise(7, "Returns the value.");
    new Bench().poly("8 8 999").due(160983, "value(0, 9999, 9999)").due(999, "value(0, 9999, -9999)");
    new Bench().poly("8 8 -999").due(-160983, "value(0, -9999, -9999)").due(-999, "value(0, -9999, 9999)");
    new Bench().poly("0 0 -999").due(-999, "value(0, 9999, 9999)").due(-999, "value(0, -9999, -9999)");
    promise(7, OUT_OF_RANGE);
    new Bench().poly(edge).make("poly()").refused(ARGUMENT, "value(0, 10000, -10000)")
        .refused(INDEX, "value(2, 10000, 0)").refused(INDEX, "value(-1, 0, -10000)")
        .refused(ARGUMENT, "value(1, 10000, 0)").refused(ARGUMENT, "value(1, 0, -10000)");
    promise(7, "Throws `NoSuchElementException` if it has no terms");
    new Bench().make("poly()").refused(MISSING, "value(0, 0, 0)").refused(MISSING, "value(0, 9999, -9999)")
        .make("term(0, 8, 8, -999)").due(-999, "value(0, 0, 0)").make("drop(0, 8, 8)")
        .refused(MISSING, "value(0, 0, 0)").refused(INDEX, "value(1, 0, 0)");
  }

  private static void greatest() {
    promise(8, "Returns how many terms have the greatest value.");
    new Bench().poly("0 0 4", "2 1 -3", "1 1 0").due(3, "greatest(0, 3, 1)").due(2, "greatest(0, 3, 2)")
        .due(1, "greatest(0, 2, 1)");
    polyNumbers(8, POLY, "greatest(@, 0, 0)", TRIANGLE);
    promise(8, "`x`: -9999 to 9999");
    new Bench().poly("0 0 0", "1 0 0").due(1, "greatest(0, 9999, 0)").due(1, "greatest(0, -9999, 0)")
        .outside(ARGUMENT, "greatest(0, @, 0)", -9999, 9999);
    promise(8, "`y`: -9999 to 9999");
    new Bench().poly("1 0 0", "1 1 0").due(1, "greatest(0, 5, 9999)").due(1, "greatest(0, 5, -9999)")
        .outside(ARGUMENT, "greatest(0, 5, @)", -9999, 9999);
    promise(8, "Returns the number of terms, 0 without any.");
    new Bench().make("poly()").due(0, "greatest(0, 0, 0)").due(0, "greatest(0, 9999, -9999)")
        .make("term(0, 3, 3, -999)").due(1, "greatest(0, 0, 0)").make("drop(0, 3, 3)").due(0, "greatest(0, 0, 0)");
    new Bench().poly("0 0 0", "1 1 0", "2 2 0", "0 2 0", "2 0 0").due(5, "greatest(0, 0, 0)");
    promise(8, OUT_OF_RANGE);
    new Bench().make("poly()").refused(ARGUMENT, "greatest(0, 10000, 0)").refused(ARGUMENT, "greatest(0, 0, -10000)")
        .refused(INDEX, "greatest(1, 10000, 0)").refused(INDEX, "greatest(-1, 0, 10000)");
  }

  private static void sum() {
    promise(9, "Makes the sum of two polynomials.");
    new Bench().poly("0 0 1", "1 0 5").poly("1 0 4", "0 1 -3").make("sum(0, 1)").due(3, "terms(2)")
        .due(1, "coefficient(2, 0, 0)").due(5, "coefficient(2, 1, 0)").due(-3, "coefficient(2, 0, 1)")
        .due(2, "terms(0)").due(2, "terms(1)").make("term(1, 1, 0, 9)", "drop(0, 0, 0)")
        .due(5, "coefficient(2, 1, 0)").due(1, "coefficient(2, 0, 0)");
    polyNumbers(9, "`one`: the number of a polynomial", "sum(@, 0)", TRIANGLE);
    polyNumbers(9, "`other`: that of another one, or the same", "sum(0, @)", TRIANGLE);
    new Bench().poly("0 0 1", "8 8 -2").make("sum(0, 0)").due(2, "terms(1)").due(1, "coefficient(1, 0, 0)")
        .due(-2, "coefficient(1, 8, 8)").make("term(1, 0, 0, 7)").due(1, "coefficient(0, 0, 0)");
    new Bench().make("poly()", "poly()").due(2, "sum(0, 1)").due(0, "terms(2)").due(3, "sum(2, 2)")
        .make("term(1, 4, 4, 4)").due(4, "sum(0, 1)").due(1, "terms(4)").due(5, "sum(1, 0)").due(1, "terms(5)");
    promise(9, "Returns its number.");
    new Bench().poly("0 0 1").due(1, "sum(0, 0)").due(2, "sum(1, 0)").due(3, "poly()").due(4, "sum(3, 3)");
    promise(9, "Throws `IndexOutOfBoundsException` if there is no such polynomial, for either");
    new Bench().poly("0 0 1").refused(INDEX, "sum(0, 1)").refused(INDEX, "sum(1, 0)").refused(INDEX, "sum(1, 1)")
        .refused(INDEX, "sum(-1, 0)").refused(INDEX, "sum(0, -1)");
    promise(9, "Throws `IllegalStateException` if there are 10");
    new Bench().makeTimes(9, "poly()").due(9, "sum(0, 8)").refused(STATE, "sum(0, 9)").refused(STATE, "sum(9, 9)")
        .refused(INDEX, "sum(0, 10)").refused(INDEX, "sum(10, 0)").refused(INDEX, "sum(-1, 0)");
  }

  private static void product() {
    promise(10, "Makes the product of two polynomials.");
    new Bench().poly("0 0 1", "1 0 2", "0 1 -3").poly("2 2 5").make("product(0, 0)")
        .writes(2, "4xx+-1xy+3x+-6yy+-2y+2").make("product(0, 1)").writes(3, "7xxxyy+2xxyyy+6xxyy")
        .make("drop(1, 2, 2)").due(3, "terms(3)");
    polyNumbers(10, "`one`: the number of a polynomial", "product(@, 0)", TRIANGLE);
    polyNumbers(10, "`other`: that of another one, or the same", "product(0, @)", TRIANGLE);
    new Bench().poly("4 4 -999").due(1, "product(0, 0)").due(-1998, "coefficient(1, 8, 8)").due(1, "terms(1)");
    promise(10, "Returns its number.");
    new Bench().poly("1 0 1").due(1, "product(0, 0)").due(2, "product(1, 0)").due(3, "poly()")
        .due(4, "product(3, 2)");
    promise(10, "Throws `IndexOutOfBoundsException` if there is no such polynomial, for either");
    new Bench().poly("8 8 1").refused(INDEX, "product(0, 1)").refused(INDEX, "product(1, 0)")
        .refused(INDEX, "product(-1, -1)");
    promise(10, "Throws `IllegalStateException` if there are 10");
    new Bench().poly("8 8 1").poly("0 0 2").makeTimes(7, "poly()").due(9, "product(0, 1)")
        .refused(STATE, "product(0, 1)").refused(STATE, "product(0, 0)").refused(STATE, "product(2, 3)")
        .refused(INDEX, "product(0, 10)").refused(INDEX, "product(10, 10)").refused(INDEX, "product(-1, 0)");
    promise(10, "Throws `UnsupportedOperationException` if a power would be more than 8");
    new Bench().poly("5 0 1", "0 5 2").poly("3 0 3", "0 3 4").poly("4 0 0").poly("0 4 0").make("poly()")
        .due(5, "product(0, 1)").due(4, "coefficient(5, 8, 0)").due(6, "coefficient(5, 0, 8)")
        .due(5, "coefficient(5, 5, 3)").refused(UNSUPPORTED, "product(0, 2)").refused(UNSUPPORTED, "product(2, 0)")
        .refused(UNSUPPORTED, "product(0, 3)").refused(UNSUPPORTED, "product(3, 0)")
        .refused(UNSUPPORTED, "product(0, 0)").due(6, "product(2, 3)").due(7, "product(2, 2)")
        .refused(UNSUPPORTED, "product(7, 2)").refused(UNSUPPORTED, "product(5, 7)");
    new Bench().poly("8 8 1").make("poly()").due(2, "product(0, 1)").due(0, "terms(2)").due(3, "product(1, 0)")
        .due(0, "terms(3)").due(4, "product(1, 1)").due(0, "terms(4)").poly("0 0 -3").due(6, "product(0, 5)")
        .due(-2, "coefficient(6, 8, 8)").poly("8 0 -999", "0 0 0").refused(UNSUPPORTED, "product(0, 7)");
  }

  private static void isNeeded() {
    promise(11, "Returns whether a term is needed.");
    new Bench().poly("0 0 0", "1 0 0", "2 0 1").due(true, "isNeeded(0, 0, 0)").due(false, "isNeeded(0, 1, 0)")
        .due(true, "isNeeded(0, 2, 0)");
    polyNumbers(11, POLY, "isNeeded(@, 0, 0)", TRIANGLE);
    promise(11, I);
    new Bench().poly("0 4 1", "8 4 2").due(true, "isNeeded(0, 0, 4)").due(true, "isNeeded(0, 8, 4)")
        .outside(MISSING, "isNeeded(0, @, 4)", 0, 8);
    promise(11, J);
    new Bench().poly("4 0 1", "4 8 2").due(true, "isNeeded(0, 4, 0)").due(true, "isNeeded(0, 4, 8)")
        .outside(MISSING, "isNeeded(0, 4, @)", 0, 8);
    promise(11, "Returns true if so.");
    new Bench().poly("8 8 -999").due(true, "isNeeded(0, 8, 8)").make("term(0, 0, 0, 999)")
        .due(true, "isNeeded(0, 8, 8)").make("term(0, 4, 4, 0)").due(false, "isNeeded(0, 4, 4)")
        .make("term(0, 4, 4, 1)").due(true, "isNeeded(0, 4, 4)").make("drop(0, 8, 8)").due(true, "isNeeded(0, 4, 4)");
    promise(11, NO_TERM);
    new Bench().poly("0 0 0", "2 0 0").make("poly()").refused(MISSING, "isNeeded(0, 1, 0)")
        .refused(MISSING, "isNeeded(1, 0, 0)").refused(MISSING, "isNeeded(0, 1, 9)")
        .refused(MISSING, "isNeeded(0, 1, -9)").refused(INDEX, "isNeeded(2, 1, 0)")
        .refused(INDEX, "isNeeded(-1, 9, 9)");
  }

  private static void neededEdges() {
    terms("A term is needed if at some point, in fractions, it alone is the greatest.");
    new Bench().poly("0 0 0", "1 0 0", "2 0 -1").due(true, "isNeeded(0, 1, 0)").due(2, "greatest(0, 0, 0)")
        .due(2, "greatest(0, 1, 0)").due(3, "needed(0)");
    new Bench().poly("0 0 0", "3 0 1", "0 3 1", "1 1 1").due(true, "isNeeded(0, 1, 1)").due(3, "greatest(0, 0, 0)")
        .due(0, "value(0, -1, -1)");
    new Bench().poly("0 0 999", "8 8 -999", "4 4 1", "8 0 -999").due(true, "isNeeded(0, 4, 4)")
        .due(true, "isNeeded(0, 8, 8)").due(true, "isNeeded(0, 8, 0)");

    terms("So it is not needed if its powers are between those of two others");
    new Bench().poly("0 3 0", "3 3 1", "1 3 0").due(false, "isNeeded(0, 1, 3)").make("term(0, 1, 3, 1)")
        .due(true, "isNeeded(0, 1, 3)");
    new Bench().poly("3 0 1", "3 8 -3", "3 4 -1").due(false, "isNeeded(0, 3, 4)").make("term(0, 3, 4, 0)")
        .due(true, "isNeeded(0, 3, 4)");
    new Bench().poly("0 6 -2", "6 0 4", "2 4 0", "1 5 -1", "5 1 3").due(false, "isNeeded(0, 2, 4)")
        .due(false, "isNeeded(0, 1, 5)").due(false, "isNeeded(0, 5, 1)").make("term(0, 2, 4, 1)")
        .due(true, "isNeeded(0, 2, 4)").due(false, "isNeeded(0, 1, 5)").due(false, "isNeeded(0, 5, 1)");
    new Bench().poly("2 2 9", "3 2 -999").due(true, "isNeeded(0, 3, 2)").due(true, "isNeeded(0, 2, 2)");

    terms("or in the triangle, sides counted, of three others");
    new Bench().poly("0 0 0", "3 0 3", "0 3 -3", "1 1 0").due(false, "isNeeded(0, 1, 1)").make("term(0, 1, 1, 1)")
        .due(true, "isNeeded(0, 1, 1)");
    new Bench().poly("0 0 0", "2 0 0", "0 2 -9", "1 0 0").due(false, "isNeeded(0, 1, 0)").make("term(0, 1, 0, 1)")
        .due(true, "isNeeded(0, 1, 0)");
    new Bench().poly("0 0 0", "8 0 0", "0 8 0", "4 4 0", "2 2 0").due(false, "isNeeded(0, 4, 4)")
        .due(false, "isNeeded(0, 2, 2)").due(3, "needed(0)").make("term(0, 2, 2, 1)").due(4, "needed(0)")
        .due(true, "isNeeded(0, 2, 2)").due(false, "isNeeded(0, 4, 4)").make("term(0, 4, 4, 1)").due(5, "needed(0)");

    terms("and its coefficient is at most what is between theirs there, straight on, or flat.");
    new Bench().poly("0 0 0", "3 0 1", "1 0 0").due(false, "isNeeded(0, 1, 0)").make("term(0, 2, 0, 1)")
        .due(true, "isNeeded(0, 2, 0)").due(false, "isNeeded(0, 1, 0)").make("term(0, 1, 0, 1)")
        .due(true, "isNeeded(0, 1, 0)").due(false, "isNeeded(0, 2, 0)");
    new Bench().poly("0 0 0", "3 0 1", "0 3 1", "1 1 0").due(false, "isNeeded(0, 1, 1)");
    new Bench().poly("0 0 0", "3 0 2", "0 3 1", "1 1 1").due(false, "isNeeded(0, 1, 1)");
    new Bench().poly("0 0 0", "2 0 -9", "0 2 -9", "2 2 2", "1 1 1").due(false, "isNeeded(0, 1, 1)")
        .make("term(0, 1, 1, 2)").due(true, "isNeeded(0, 1, 1)");
  }

  private static void needed() {
    promise(12, "Returns how many terms are needed.");
    new Bench().poly("0 0 0", "1 0 0", "2 0 0", "0 1 0", "1 1 0").due(4, "needed(0)").due(5, "terms(0)");
    polyNumbers(12, POLY, "needed(@)", TRIANGLE);
    promise(12, "Returns the number of terms.");
    new Bench().make("poly()").due(0, "needed(0)").make("term(0, 8, 8, -999)").due(1, "needed(0)")
        .make("term(0, 0, 0, 999)").due(2, "needed(0)").make("drop(0, 8, 8)", "drop(0, 0, 0)").due(0, "needed(0)");
    Bench all = new Bench().make("poly()");
    Bench flat = new Bench().make("poly()");
    for (int cell = 0; cell < 81; cell++) {
      String powers = "term(0, " + cell / 9 + ", " + cell % 9 + ", ";
      all.make(powers + -(cell / 9 * (cell / 9) + cell % 9 * (cell % 9)) + ")");
      flat.make(powers + (3 * (cell / 9) - 5 * (cell % 9)) + ")");
    }
    all.due(81, "needed(0)");
    flat.due(4, "needed(0)").dueAt(true, "isNeeded(0, @, 0)", 0, 8).dueAt(true, "isNeeded(0, @, 8)", 0, 8);
  }

  private static void isSame() {
    promise(13, "Returns whether two polynomials are the same function.");
    new Bench().poly("0 0 0", "2 0 2").poly("0 0 0", "1 0 1", "2 0 2").poly("0 0 0", "1 0 2", "2 0 2")
        .due(true, "isSame(0, 1)").due(true, "isSame(1, 0)").due(false, "isSame(1, 2)").due(false, "isSame(2, 0)");
    polyNumbers(13, "`one`: the number of a polynomial", "isSame(@, 0)", TRIANGLE);
    polyNumbers(13, "`other`: that of another one, or the same", "isSame(0, @)", TRIANGLE);
    new Bench().poly("0 0 0").make("poly()").due(true, "isSame(0, 0)").due(true, "isSame(1, 1)");
    promise(13, "Returns true if so.");
    new Bench().make("poly()", "poly()").due(true, "isSame(0, 1)").make("term(1, 0, 0, -999)")
        .due(false, "isSame(0, 1)").due(false, "isSame(1, 0)").make("term(0, 0, 0, -998)").due(false, "isSame(0, 1)")
        .make("term(1, 0, 0, -998)").due(true, "isSame(0, 1)").make("term(1, 8, 8, -999)").due(false, "isSame(0, 1)")
        .due(false, "isSame(1, 0)");
    promise(13, "Throws `IndexOutOfBoundsException` if there is no such polynomial, for either");
    new Bench().poly("0 0 0").refused(INDEX, "isSame(0, 1)").refused(INDEX, "isSame(1, 0)")
        .refused(INDEX, "isSame(-1, -1)");
    terms("Two polynomials are the same function if their needed terms, with coefficients, are the same.");
    new Bench().poly("0 0 1", "2 0 1").poly("0 0 1", "2 0 2").poly("0 0 1", "0 2 1").poly("0 0 1", "2 0 1", "1 0 1")
        .poly("0 0 1", "2 0 1", "1 0 2").due(false, "isSame(0, 1)").due(false, "isSame(0, 2)")
        .due(true, "isSame(0, 3)").due(false, "isSame(0, 4)").due(false, "isSame(4, 3)");
  }

  private static void limits() {
    terms("At most 10 are numbered from 0");
    new Bench().due(0, "poly()").make("sum(0, 0)", "product(0, 0)").makeTimes(6, "poly()").due(9, "sum(8, 8)")
        .refused(STATE, "poly()").refused(STATE, "sum(0, 0)").refused(STATE, "product(0, 0)").due(0, "terms(9)");
    terms("each with terms of powers of x and of y, each 0 to 8");
    new Bench().make("poly()").due(1, "term(0, 0, 0, 1)").due(2, "term(0, 8, 0, 2)").due(3, "term(0, 0, 8, 3)")
        .due(4, "term(0, 8, 8, 4)").refused(ARGUMENT, "term(0, 9, 0, 5)").refused(ARGUMENT, "term(0, 0, 9, 5)")
        .refused(ARGUMENT, "term(0, -1, 8, 5)").refused(ARGUMENT, "term(0, 8, -1, 5)").writes(0,
            "4xxxxxxxxyyyyyyyy+2xxxxxxxx+3yyyyyyyy+1");
    terms("and a coefficient, -999 to 999 when it is told.");
    Bench told = new Bench().poly("0 0 999").poly("0 0 -999").make("product(0, 0)", "product(1, 1)")
        .due(1998, "coefficient(2, 0, 0)").due(-1998, "coefficient(3, 0, 0)").refused(ARGUMENT, "term(2, 0, 0, 1000)")
        .due(1, "term(2, 0, 0, 999)").due(1998, "coefficient(2, 0, 0)").due(1, "term(3, 0, 0, -999)")
        .due(-999, "coefficient(3, 0, 0)");
    for (int number = 4; number < 10; number++) {
      told.due(number, "product(" + (number == 4 ? 2 : number - 1) + ", " + (number == 4 ? 2 : number - 1) + ")");
    }
    told.due(127872, "coefficient(9, 0, 0)").due(127872, "value(9, 9999, 9999)").due(1998, "drop(2, 0, 0)")
        .due(1, "term(2, 0, 0, 999)").due(999, "coefficient(2, 0, 0)");
    greatestCoefficient("999", 511488);
    greatestCoefficient("-999", -511488);
  }

  private static void greatestCoefficient(String first, int last) {
    Bench garden = new Bench().poly("0 0 " + first);
    for (int number = 1; number < 10; number++) {
      garden.due(number, "product(" + (number - 1) + ", " + (number - 1) + ")");
    }
    garden.due(last, "coefficient(9, 0, 0)").due(last, "value(9, -9999, 9999)").writes(9, "" + last)
        .due(true, "isNeeded(9, 0, 0)").make("term(9, 8, 0, " + first + ")", "term(9, 0, 8, " + first + ")")
        .due(1, "corners(9)").due((last - Integer.parseInt(first)) / 1, "corner(9, 0, 'x')")
        .due(8, "corner(9, 0, 'd')").due(true, "isBalanced(9, 0)").due(last, "drop(9, 0, 0)");
  }

  private static void words() {
    terms("Numbers are whole.");
    new Bench().poly("0 0 0", "2 0 1").due(-1, "root(0, 0, 'n')").due(2, "root(0, 0, 'd')").due(1, "value(0, 0, 0)");
    terms("The value of a term at x and y is its coefficient plus the power of x times x, plus that of y times y");
    new Bench().poly("8 3 -11").due(8 * 7 - 3 * 5 - 11, "value(0, 7, -5)").due(-8 * 7 + 3 * 5 - 11, "value(0, -7, 5)");
    terms("the value of a polynomial is the greatest of these, of all terms.");
    new Bench().poly("0 0 0", "1 0 0", "0 1 0", "1 1 -3").due(0, "value(0, 0, 0)").due(2, "value(0, 2, 1)")
        .due(2, "value(0, 1, 2)").due(5, "value(0, 4, 4)").due(0, "value(0, -1, -1)");
    terms("Terms of the same powers are one, with the greater coefficient.");
    new Bench().make("poly()").due(1, "term(0, 2, 2, 0)").due(1, "term(0, 2, 2, -1)").due(0, "coefficient(0, 2, 2)")
        .due(1, "term(0, 2, 2, 1)").due(1, "coefficient(0, 2, 2)").due(1, "term(0, 2, 2, 1)").due(1, "terms(0)")
        .due(1, "term(0, 2, 2, -999)").due(1, "coefficient(0, 2, 2)").due(1, "term(0, 2, 2, 999)")
        .due(999, "drop(0, 2, 2)").due(0, "terms(0)");
    terms("The sum of two has all terms of both");
    new Bench().poly("0 0 -999", "8 8 0").poly("0 0 -998", "8 0 999").make("sum(0, 1)").due(3, "terms(2)")
        .due(-998, "coefficient(2, 0, 0)").due(0, "coefficient(2, 8, 8)").due(999, "coefficient(2, 8, 0)");
    terms("the product all sums of a term of one and a term of the other, that is, of powers and of coefficients.");
    new Bench().poly("0 0 5", "1 0 0", "2 0 5").poly("0 0 0", "1 0 5", "2 0 0").make("product(0, 1)")
        .writes(2, "5xxxx+10xxx+5xx+10x+5").make("product(0, 0)").writes(3, "10xxxx+5xxx+10xx+5x+10")
        .due(5, "terms(2)").due(5, "terms(3)");
  }
}
