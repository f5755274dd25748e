/** The sentences on roots and curves: promises 14 to 27. */
final class EdgesOfCurves extends Edges {
  private static final String POLY = "`poly`: the number of the polynomial";
  private static final String INDEX_LINE = "`index`: the index of the corner, from 0";
  private static final String NO_ROOTS = "Throws `UnsupportedOperationException` if it has a term with y, or none";
  private static final String NO_CURVE =
      "Throws `UnsupportedOperationException` if all needed terms are on one line, or there are none";
  private static final String NO_CORNER = "Throws `NoSuchElementException` if there is no such corner";
  private static final String LINE = "0 0 0|2 0 1|3 0 -4";
  /** One closed room: corners at (-5, 0), (0, -5) and (5, 5). */
  private static final String ROOM = "0 0 0|3 0 0|0 3 0|1 1 5";
  private static final String PENTAGON = "1 2 0|1 5 0|3 7 0|7 3 0|3 2 0|2 4 0";
  private static final String[] ON_A_LINE = {"4 4 1", "0 0 0|8 8 0", "0 0 0|1 0 5|2 0 1", "3 0 0|3 4 1|3 8 -9",
      "0 8 1|4 4 1|8 0 1|2 6 -999", "0 1 0|1 3 5|2 5 1", "0 0 0|0 1 0|0 2 -1|0 8 -999"};

  static void run() {
    roots();
    root();
    turnsAnew();
    corners();
    corner();
    weight();
    isBalanced();
    edgesOut();
    area();
    areaAnew();
    meet();
    meetAnew();
    rootWords();
    cornerWords();
    polygonWords();
    meetingWords();
  }

  private static Bench garden(String... polynomials) {
    Bench made = new Bench();
    for (String each : polynomials) {
      made.poly(each.isEmpty() ? new String[0] : each.split("\\|"));
    }
    return made;
  }

  /** All 81 terms, each needed: 128 corners, of a triangle each. */
  private static Bench bent() {
    Bench made = new Bench().make("poly()");
    for (int cell = 0; cell < 81; cell++) {
      int i = cell / 9;
      int j = cell % 9;
      made.make("term(0, " + i + ", " + j + ", " + -3 * (i * i + i * j + j * j) + ")");
    }
    return made;
  }

  /** All 81 terms, all of them the greatest at (2, -7). */
  private static Bench flat() {
    Bench made = new Bench().make("poly()");
    for (int cell = 0; cell < 81; cell++) {
      made.make("term(0, " + cell / 9 + ", " + cell % 9 + ", " + (7 * (cell % 9) - 2 * (cell / 9)) + ")");
    }
    return made;
  }

  private static void withoutRoots(int promise, String pattern) {
    promise(promise, NO_ROOTS);
    String of0 = pattern.replace("@", "0");
    garden("").refused(UNSUPPORTED, of0).make("term(0, 0, 1, -999)").refused(UNSUPPORTED, of0)
        .make("term(0, 0, 0, 999)", "term(0, 1, 0, 999)").refused(UNSUPPORTED, of0).make("drop(0, 0, 1)").make(of0)
        .make("term(0, 8, 8, -999)").refused(UNSUPPORTED, of0).make("drop(0, 8, 8)").make(of0)
        .make("drop(0, 0, 0)", "drop(0, 1, 0)").refused(UNSUPPORTED, of0)
        .refused(INDEX, pattern, 1).refused(INDEX, pattern, -1);
    garden("0 8 0").refused(UNSUPPORTED, of0);
    garden("0 0 0|1 0 0|2 1 -999").refused(UNSUPPORTED, of0);
  }

  private static void roots() {
    promise(14, "Returns how many roots there are.");
    garden("0 0 4|2 0 5|1 0 1|5 0 0").due(2, "roots(0)");
    polyNumbers(14, POLY, "roots(@)", LINE);
    promise(14, "Returns the number of roots.");
    garden("0 0 0").due(0, "roots(0)").make("term(0, 8, 0, 0)").due(1, "roots(0)").make("term(0, 4, 0, 0)")
        .due(1, "roots(0)").make("term(0, 4, 0, 1)").due(2, "roots(0)").make("drop(0, 0, 0)").due(1, "roots(0)")
        .make("drop(0, 4, 0)").due(0, "roots(0)");
    garden("0 0 0|1 0 -1|2 0 -4|3 0 -9|4 0 -16|5 0 -25|6 0 -36|7 0 -49|8 0 -64").due(8, "roots(0)");
    garden("0 0 0|1 0 1|2 0 2|3 0 3|4 0 4|5 0 5|6 0 6|7 0 7|8 0 8").due(1, "roots(0)");
    withoutRoots(14, "roots(@)");
  }

  private static void root() {
    promise(15, "Returns something of a root.");
    garden(LINE).due(-1, "root(0, 0, 'n')").due(2, "root(0, 0, 'd')").due(2, "root(0, 0, 't')")
        .due(5, "root(0, 1, 'n')").due(1, "root(0, 1, 'd')").due(1, "root(0, 1, 't')");
    polyNumbers(15, POLY, "root(@, 0, 'n')", LINE);
    promise(15, "`index`: the index, from 0");
    garden(LINE).due(2, "roots(0)").outside(MISSING, "root(0, @, 'n')", 0, 1).outside(MISSING, "root(0, @, 't')", 0, 1);
    garden("0 0 0|1 0 -1|2 0 -4|3 0 -9|4 0 -16|5 0 -25|6 0 -36|7 0 -49|8 0 -64")
        .dueAll("root(0, @, 'n')", 1, 3, 5, 7, 9, 11, 13, 15).outside(MISSING, "root(0, @, 'n')", 0, 7);
    promise(15, "`what`: 'n' the upper number, 'd' the lower one, 't' the turns");
    garden("1 0 9|7 0 5").due(2, "root(0, 0, 'n')").due(3, "root(0, 0, 'd')").due(6, "root(0, 0, 't')");
    otherSigns("root(0, 0, @)", "ndt", LINE);
    promise(15, "Returns the number.");
    garden("0 0 -999|8 0 999").due(-999, "root(0, 0, 'n')").due(4, "root(0, 0, 'd')").due(8, "root(0, 0, 't')");
    garden("0 0 999|1 0 -999").due(1998, "root(0, 0, 'n')").due(1, "root(0, 0, 'd')").due(1, "root(0, 0, 't')");
    garden("3 0 7|7 0 7").due(0, "root(0, 0, 'n')").due(1, "root(0, 0, 'd')").due(4, "root(0, 0, 't')");
    withoutRoots(15, "root(@, 0, 'n')");
    garden("", "0 1 0|1 0 0").refused(UNSUPPORTED, "root(0, 0, 'q')").refused(UNSUPPORTED, "root(1, 0, 'q')")
        .refused(UNSUPPORTED, "root(0, -1, 'n')").refused(UNSUPPORTED, "root(1, 9, 'n')")
        .refused(INDEX, "root(2, 0, 'q')").refused(INDEX, "root(-1, 9, 'n')");
    promise(15, "Throws `IllegalArgumentException` if there is no such thing");
    garden(LINE).refused(ARGUMENT, "root(0, 0, 'x')").refused(ARGUMENT, "root(0, 2, 'x')")
        .refused(ARGUMENT, "root(0, -1, 'N')").refused(ARGUMENT, "root(0, 2147483647, 'D')")
        .refused(INDEX, "root(1, 0, 'x')");
    promise(15, "Throws `NoSuchElementException` if there is no such root");
    garden("8 0 -999").refused(MISSING, "root(0, 0, 'n')").refused(MISSING, "root(0, 0, 'd')")
        .refused(MISSING, "root(0, 0, 't')").refused(MISSING, "root(0, -1, 't')").refused(ARGUMENT, "root(0, 0, 'e')")
        .make("term(0, 0, 0, 1)").due(8, "root(0, 0, 't')").refused(MISSING, "root(0, 1, 't')");
  }

  /** Each sign up to 255 that is none of some, and those that are one of them once they are cut short. */
  private static void otherSigns(String pattern, String known, String polynomial) {
    Bench made = garden(polynomial);
    for (int sign = 0; sign < 256; sign++) {
      if (known.indexOf(sign) < 0) {
        made.onlyThrows(ARGUMENT, pattern.replace("@", "" + sign));
      }
    }
    Bench far = garden(polynomial);
    for (char sign : known.toCharArray()) {
      far.answers(pattern, sign);
      far.refused(ARGUMENT, pattern, sign + 256, sign + 32768, sign - 32, sign + 1 + (known.indexOf(sign + 1) < 0 ? 0 : 1));
    }
    far.refused(ARGUMENT, pattern, 0, 48, 65535);
  }

  private static void turnsAnew() {
    promise(16, "found by values alone: the power of the greatest term at x = 1000000000, less that at x = -1000000000.");
    garden("2 0 999|5 0 0|7 0 -999").due(5, "turnsAnew(0)");
    garden("1 0 0|8 0 0|0 0 -999").due(8, "turnsAnew(0)");
    Bench far = garden("0 0 999");
    for (int number = 1; number < 10; number++) {
      far.make("product(" + (number - 1) + ", " + (number - 1) + ")");
    }
    far.make("term(9, 1, 0, -999)").due(1, "turnsAnew(9)").due(512487, "root(9, 0, 'n')");
    polyNumbers(16, POLY, "turnsAnew(@)", LINE);
    promise(16, "Returns the number of turns.");
    garden("8 0 1").due(0, "turnsAnew(0)").make("term(0, 0, 0, -1)").due(8, "turnsAnew(0)")
        .make("term(0, 4, 0, -9)").due(8, "turnsAnew(0)").make("drop(0, 8, 0)").due(4, "turnsAnew(0)");
    withoutRoots(16, "turnsAnew(@)");
  }

  private static void withoutCurve(int promise, String pattern) {
    promise(promise, NO_CURVE);
    String of0 = pattern.replace("@", "0");
    garden("").refused(UNSUPPORTED, of0).refused(INDEX, pattern, 1).refused(INDEX, pattern, -1);
    for (String each : ON_A_LINE) {
      garden(each).refused(UNSUPPORTED, of0);
    }
    garden("0 0 999|8 8 999|7 8 -999").make(of0).make("drop(0, 8, 8)").refused(UNSUPPORTED, of0);
    garden("0 0 0|4 0 0|8 0 0|3 1 -999").make(of0).make("drop(0, 3, 1)").refused(UNSUPPORTED, of0);
    garden("3 0 0|3 8 0|2 4 -999").make(of0);
  }

  private static void corners() {
    promise(17, "Returns how many corners a curve has.");
    garden(ROOM, TRIANGLE).due(3, "corners(0)").due(1, "corners(1)");
    polyNumbers(17, POLY, "corners(@)", TRIANGLE);
    promise(17, "Returns the number of corners.");
    flat().due(1, "corners(0)");
    bent().due(128, "corners(0)");
    garden("0 0 0|1 0 0|0 1 0|1 1 0").due(1, "corners(0)").make("term(0, 1, 1, 1)").due(2, "corners(0)")
        .make("drop(0, 1, 1)", "term(0, 1, 1, -1)").due(2, "corners(0)").make("drop(0, 0, 0)").due(1, "corners(0)");
    withoutCurve(17, "corners(@)");
  }

  private static void corner() {
    promise(18, "Returns something of a corner.");
    garden(ROOM).dueAll("corner(0, @, 'x')", -5, 0, 5).dueAll("corner(0, @, 'y')", 0, -5, 5)
        .dueAll("corner(0, @, 'd')", 1, 1, 1).dueAll("corner(0, @, 'a')", 3, 3, 3)
        .dueAll("corner(0, @, 'n')", 3, 3, 3).dueAll("corner(0, @, 'e')", 3, 3, 3);
    polyNumbers(18, POLY, "corner(@, 0, 'x')", TRIANGLE);
    promise(18, "`index`: the index, from 0");
    garden(ROOM).outside(MISSING, "corner(0, @, 'x')", 0, 2).outside(MISSING, "corner(0, @, 'e')", 0, 2);
    bent().due(3, "corner(0, 0, 'x')").due(3, "corner(0, 0, 'y')").due(6, "corner(0, 1, 'y')")
        .due(9, "corner(0, 2, 'y')").due(69, "corner(0, 127, 'x')").due(69, "corner(0, 127, 'y')")
        .outside(MISSING, "corner(0, @, 'd')", 0, 127);
    promise(18, "`what`: 'x' and 'y' the upper numbers, 'd' the lower one, 'a' the doubled area of its polygon, "
        + "'n' how many terms are the greatest there, 'e' how many edges go out");
    garden("0 0 0|2 0 -1|0 3 -1|1 0 -999").due(3, "corner(0, 0, 'x')").due(2, "corner(0, 0, 'y')")
        .due(6, "corner(0, 0, 'd')").due(6, "corner(0, 0, 'a')").due(3, "corner(0, 0, 'n')")
        .due(3, "corner(0, 0, 'e')");
    garden(PENTAGON).due(0, "corner(0, 0, 'x')").due(0, "corner(0, 0, 'y')").due(1, "corner(0, 0, 'd')")
        .due(36, "corner(0, 0, 'a')").due(6, "corner(0, 0, 'n')").due(5, "corner(0, 0, 'e')");
    otherSigns("corner(0, 0, @)", "xydane", TRIANGLE);
    promise(18, "Returns the number.");
    flat().due(2, "corner(0, 0, 'x')").due(-7, "corner(0, 0, 'y')").due(1, "corner(0, 0, 'd')")
        .due(128, "corner(0, 0, 'a')").due(81, "corner(0, 0, 'n')").due(4, "corner(0, 0, 'e')");
    garden("0 0 -999|8 0 999|0 8 999").due(-999, "corner(0, 0, 'x')").due(-999, "corner(0, 0, 'y')")
        .due(4, "corner(0, 0, 'd')").due(64, "corner(0, 0, 'a')");
    withoutCurve(18, "corner(@, 0, 'x')");
    garden("", "0 0 0|1 1 0").refused(UNSUPPORTED, "corner(0, 0, 'q')").refused(UNSUPPORTED, "corner(1, 0, 'q')")
        .refused(UNSUPPORTED, "corner(1, -1, 'x')").refused(INDEX, "corner(2, 0, 'q')")
        .refused(INDEX, "corner(-1, -1, 'x')");
    promise(18, "Throws `IllegalArgumentException` if there is no such thing");
    garden(TRIANGLE).refused(ARGUMENT, "corner(0, 0, 't')").refused(ARGUMENT, "corner(0, 1, 'w')")
        .refused(ARGUMENT, "corner(0, -1, 'X')").refused(INDEX, "corner(1, 0, 'X')");
    promise(18, NO_CORNER);
    for (char what : "xydane".toCharArray()) {
      garden(TRIANGLE).refused(MISSING, "corner(0, 1, '" + what + "')").refused(MISSING, "corner(0, -1, '" + what + "')");
    }
  }

  private static void weight() {
    promise(19, "Returns the weight of an edge.");
    garden(PENTAGON).dueAll("weight(0, 0, @)", 3, 2, 4, 1, 2);
    garden(ROOM).dueAll("weight(0, 0, @)", 3, 1, 1).dueAll("weight(0, 1, @)", 1, 1, 3)
        .dueAll("weight(0, 2, @)", 3, 1, 1);
    polyNumbers(19, POLY, "weight(@, 0, 0)", TRIANGLE);
    promise(19, INDEX_LINE);
    garden(ROOM).outside(MISSING, "weight(0, @, 0)", 0, 2);
    bent().due(1, "weight(0, 0, 0)").due(1, "weight(0, 127, 2)").outside(MISSING, "weight(0, @, 0)", 0, 127);
    promise(19, "`edge`: the edge, from 0: sides from the vertex with the lowest power of x on, of several that with "
        + "the lowest of y, round the polygon so that it is at the right hand, with x to the right and y upward");
    garden("0 4 0|1 8 0|6 8 0|4 0 0").dueAll("weight(0, 0, @)", 1, 5, 2, 4).outside(MISSING, "weight(0, 0, @)", 0, 3);
    garden("2 6 0|2 0 0|7 3 0").dueAll("weight(0, 0, @)", 6, 1, 1).outside(MISSING, "weight(0, 0, @)", 0, 2);
    garden("0 0 0|0 2 0|2 4 0|8 4 0|8 3 0|4 0 0").dueAll("weight(0, 0, @)", 2, 2, 6, 1, 1, 4)
        .outside(MISSING, "weight(0, 0, @)", 0, 5);
    promise(19, "Returns the weight.");
    flat().dueAll("weight(0, 0, @)", 8, 8, 8, 8).outside(MISSING, "weight(0, 0, @)", 0, 3);
    garden("0 0 0|8 4 0|4 8 0").dueAll("weight(0, 0, @)", 4, 4, 4);
    garden("0 0 0|7 8 0|8 7 0").dueAll("weight(0, 0, @)", 1, 1, 1);
    withoutCurve(19, "weight(@, 0, 0)");
    garden("", "0 0 0|1 1 0").refused(UNSUPPORTED, "weight(0, -1, 0)").refused(UNSUPPORTED, "weight(1, 0, 9)")
        .refused(INDEX, "weight(2, -1, -1)");
    promise(19, "Throws `NoSuchElementException` if there is no such corner or edge");
    garden(TRIANGLE).refused(MISSING, "weight(0, 0, 3)").refused(MISSING, "weight(0, 0, -1)")
        .refused(MISSING, "weight(0, 1, 0)").refused(MISSING, "weight(0, -1, 0)").refused(MISSING, "weight(0, 1, 3)")
        .refused(INDEX, "weight(1, 1, 3)").dueAll("weight(0, 0, @)", 1, 1, 1);
  }

  private static void isBalanced() {
    promise(20, "Returns whether a corner is balanced.");
    garden(ROOM).dueAll("isBalanced(0, @)", true, true, true);
    polyNumbers(20, POLY, "isBalanced(@, 0)", TRIANGLE);
    promise(20, INDEX_LINE);
    garden(ROOM).outside(MISSING, "isBalanced(0, @)", 0, 2);
    promise(20, "Returns true if so.");
    Bench all = bent();
    for (int index = 0; index < 128; index++) {
      all.due(true, "isBalanced(0, " + index + ")");
    }
    all.outside(MISSING, "isBalanced(0, @)", 0, 127);
    flat().due(true, "isBalanced(0, 0)").outside(MISSING, "isBalanced(0, @)", 0, 0);
    withoutCurve(20, "isBalanced(@, 0)");
    garden("", "0 0 0|1 1 0").refused(UNSUPPORTED, "isBalanced(0, 5)").refused(UNSUPPORTED, "isBalanced(1, -1)")
        .refused(INDEX, "isBalanced(2, 0)");
    promise(20, NO_CORNER);
    garden(TRIANGLE).refused(MISSING, "isBalanced(0, 1)").refused(MISSING, "isBalanced(0, -1)")
        .refused(INDEX, "isBalanced(1, 1)").due(true, "isBalanced(0, 0)");
  }

  private static void edgesOut() {
    promise(21, "Returns how many edges go on for ever.");
    garden(ROOM, PENTAGON).due(3, "rays(0)").due(5, "rays(1)");
    polyNumbers(21, POLY, "rays(@)", TRIANGLE);
    promise(21, "Returns the number of edges.");
    flat().due(4, "rays(0)");
    bent().due(32, "rays(0)");
    garden("0 0 0|2 0 5|4 0 0|0 4 0|1 0 2").due(4, "rays(0)").make("drop(0, 2, 0)").due(4, "rays(0)")
        .make("drop(0, 1, 0)").due(3, "rays(0)");
    withoutCurve(21, "rays(@)");

    promise(22, "Returns how many edges lead from a corner to another one.");
    garden(ROOM, PENTAGON).due(3, "links(0)").due(0, "links(1)");
    polyNumbers(22, POLY, "links(@)", TRIANGLE);
    promise(22, "Returns the number of edges.");
    flat().due(0, "links(0)");
    bent().due(176, "links(0)");
    garden("0 0 0|2 0 5|4 0 0|0 4 0|1 0 2").due(1, "links(0)");
    withoutCurve(22, "links(@)");

    promise(23, "Returns how many rooms of the curve are closed: links less corners plus 1.");
    garden(ROOM, PENTAGON).due(1, "genus(0)").due(0, "genus(1)");
    polyNumbers(23, POLY, "genus(@)", TRIANGLE);
    promise(23, "Returns the number of rooms.");
    flat().due(0, "genus(0)");
    bent().due(49, "genus(0)");
    garden("0 0 0|2 0 0|0 2 0|2 2 0").due(0, "genus(0)").make("term(0, 1, 1, 0)").due(0, "genus(0)")
        .make("term(0, 1, 1, 1)").due(1, "genus(0)");
    withoutCurve(23, "genus(@)");
  }

  private static void area() {
    promise(24, "Returns the doubled area of the polygon of a polynomial.");
    garden(TRIANGLE, ROOM, PENTAGON).dueAll("area(@)", 1, 9, 36);
    polyNumbers(24, POLY, "area(@)", TRIANGLE);
    promise(24, "Returns the number, 0 if its terms are on one line, or there are none.");
    garden("").due(0, "area(0)").make("term(0, 8, 8, 0)").due(0, "area(0)").make("term(0, 0, 0, 0)")
        .due(0, "area(0)").make("term(0, 4, 4, -999)").due(0, "area(0)").make("term(0, 8, 7, -999)")
        .due(8, "area(0)").make("term(0, 8, 0, -999)").due(64, "area(0)").make("term(0, 0, 8, -999)")
        .due(128, "area(0)");
    for (String each : ON_A_LINE) {
      garden(each).due(0, "area(0)");
    }
    flat().due(128, "area(0)");
    bent().due(128, "area(0)");
  }

  private static void areaAnew() {
    promise(25, "Returns the same as the sum over all corners.");
    garden(TRIANGLE, ROOM, PENTAGON).dueAll("areaAnew(@)", 1, 9, 36);
    polyNumbers(25, POLY, "areaAnew(@)", TRIANGLE);
    promise(25, "Returns the number.");
    flat().due(128, "areaAnew(0)");
    bent().due(128, "areaAnew(0)");
    garden("8 8 0|0 0 0|8 7 -999").due(8, "areaAnew(0)");
    garden("0 0 0|0 1 0|0 3 -2|1 3 10").dueAll("corner(0, @, 'a')", 2, 1).due(3, "areaAnew(0)");
    withoutCurve(25, "areaAnew(@)");
  }

  private static void meet() {
    promise(26, "Returns how often two curves meet.");
    garden(TRIANGLE, "0 0 0|1 0 1|0 1 1|1 1 1|2 0 0|0 2 0").due(2, "meet(0, 1)").due(2, "meet(1, 0)");
    polyNumbers(26, "`one`: the number of a polynomial", "meet(@, 0)", TRIANGLE);
    polyNumbers(26, "`other`: that of another one", "meet(0, @)", TRIANGLE);
    promise(26, "Returns the number.");
    garden(TRIANGLE, "3 3 3", "0 0 0|2 0 1", "0 0 0|0 3 1", "0 0 0|4 0 0|0 4 0|4 4 9").due(1, "meet(0, 0)")
        .due(0, "meet(0, 1)").due(0, "meet(1, 1)").due(0, "meet(2, 2)").due(6, "meet(2, 3)").due(6, "meet(3, 2)")
        .due(2, "meet(2, 0)").due(3, "meet(0, 3)").due(32, "meet(4, 4)").due(8, "meet(0, 4)").due(12, "meet(3, 4)");
    promise(26, "Throws `IndexOutOfBoundsException` if there is no such polynomial, for either");
    garden("").refused(INDEX, "meet(0, 1)").refused(INDEX, "meet(1, 0)").refused(INDEX, "meet(-1, 0)");
    garden("8 8 0").refused(INDEX, "meet(0, 1)").refused(INDEX, "meet(1, 0)");
    promise(26, "Throws `UnsupportedOperationException` if one has no terms, or a power of the product would be more "
        + "than 8");
    withoutMeeting("meet");
    garden("3 3 3", "4 4 0").due(0, "meet(0, 1)").due(0, "meet(0, 0)");
  }

  /** What both kinds of meeting numbers refuse: no terms, and powers of 9, in x alone or in y alone. */
  private static void withoutMeeting(String name) {
    garden("", TRIANGLE, "5 0 0|0 5 0|0 0 0", "3 0 0|0 3 0|0 0 0", "4 0 0|0 0 0|0 1 0", "0 4 0|0 0 0|1 0 0")
        .refused(UNSUPPORTED, name + "(0, 0)").refused(UNSUPPORTED, name + "(0, 1)")
        .refused(UNSUPPORTED, name + "(1, 0)").due(15, name + "(2, 3)").due(15, name + "(3, 2)")
        .refused(UNSUPPORTED, name + "(2, 4)").refused(UNSUPPORTED, name + "(4, 2)")
        .refused(UNSUPPORTED, name + "(2, 5)").refused(UNSUPPORTED, name + "(5, 2)")
        .refused(UNSUPPORTED, name + "(2, 2)").due(16, name + "(4, 5)").make("drop(1, 0, 0)", "drop(1, 1, 0)")
        .make("drop(1, 0, 1)").refused(UNSUPPORTED, name + "(1, 3)").refused(UNSUPPORTED, name + "(3, 1)");
  }

  private static void meetAnew() {
    promise(27, "Returns the same by the corners of the product.");
    garden(TRIANGLE, "0 0 0|1 0 1|0 1 1|1 1 1|2 0 0|0 2 0").due(2, "meetAnew(0, 1)").due(2, "meetAnew(1, 0)");
    polyNumbers(27, "`one`: the number of a polynomial", "meetAnew(@, 0)", TRIANGLE);
    polyNumbers(27, "`other`: that of another one", "meetAnew(0, @)", TRIANGLE);
    promise(27, "Returns the number.");
    garden(TRIANGLE, "3 3 3", "0 0 0|2 0 1", "0 0 0|0 3 1", "0 0 0|4 0 0|0 4 0|4 4 9").due(1, "meetAnew(0, 0)")
        .due(0, "meetAnew(0, 1)").due(6, "meetAnew(2, 3)").due(6, "meetAnew(3, 2)").due(2, "meetAnew(2, 0)")
        .due(3, "meetAnew(0, 3)").due(32, "meetAnew(4, 4)").due(8, "meetAnew(0, 4)").due(12, "meetAnew(3, 4)");
    promise(27, "Throws `IndexOutOfBoundsException` if there is no such polynomial, for either");
    garden("").refused(INDEX, "meetAnew(0, 1)").refused(INDEX, "meetAnew(1, 0)").refused(INDEX, "meetAnew(-1, 0)");
    garden("8 8 0").refused(INDEX, "meetAnew(0, 1)").refused(INDEX, "meetAnew(1, 0)");
    promise(27, "Throws `UnsupportedOperationException` if one has no terms, a power of the product would be more than "
        + "8, or all needed terms of the product are on one line");
    withoutMeeting("meetAnew");
    garden("3 3 3", "4 4 0", "0 0 0|2 1 5", "0 1 0|4 3 -5|2 2 9", "1 0 0|0 2 0").refused(UNSUPPORTED, "meetAnew(0, 0)")
        .refused(UNSUPPORTED, "meetAnew(0, 1)").refused(UNSUPPORTED, "meetAnew(0, 2)")
        .refused(UNSUPPORTED, "meetAnew(2, 0)").refused(UNSUPPORTED, "meetAnew(2, 2)")
        .refused(UNSUPPORTED, "meetAnew(2, 3)").refused(UNSUPPORTED, "meetAnew(3, 3)")
        .due(5, "meetAnew(2, 4)").due(10, "meetAnew(3, 4)").due(0, "meet(2, 3)").due(0, "meet(0, 0)");
  }

  private static void rootWords() {
    terms("Of a polynomial of x alone, the roots are where two needed terms that are next to each other by powers have "
        + "the same value");
    garden("0 0 0|1 0 -1|3 0 -9|2 0 -999").due(2, "roots(0)").due(1, "root(0, 0, 'n')").due(4, "root(0, 1, 'n')")
        .due(1, "root(0, 1, 'd')").due(2, "root(0, 1, 't')").due(2, "greatest(0, 1, 0)").due(2, "greatest(0, 4, 0)")
        .due(1, "greatest(0, 2, 0)");
    terms("as fractions, in lowest terms with the lower number above 0, by rising values.");
    garden("0 0 2|4 0 8|8 0 8").dueAll("root(0, @, 'n')", -3, 0).dueAll("root(0, @, 'd')", 2, 1)
        .dueAll("root(0, @, 't')", 4, 4);
    garden("0 0 0|2 0 -1|5 0 -3|8 0 -7").dueAll("root(0, @, 'n')", 1, 2, 4).dueAll("root(0, @, 'd')", 2, 3, 3)
        .dueAll("root(0, @, 't')", 2, 3, 3);
    garden("0 0 0|6 0 -999").due(333, "root(0, 0, 'n')").due(2, "root(0, 0, 'd')").due(6, "root(0, 0, 't')");
    terms("The turns of a root are the difference of these powers.");
    garden("1 0 0|2 0 0|4 0 0|8 0 -16").dueAll("root(0, @, 't')", 3, 4).due(7, "turnsAnew(0)");
  }

  private static void cornerWords() {
    terms("The corners of a polynomial of both letters are the points at which needed terms are the greatest whose "
        + "powers are not all on one line.");
    garden("0 0 0|1 0 0|2 0 0|0 1 -5").due(1, "corners(0)").due(5, "corner(0, 0, 'y')").due(4, "corner(0, 0, 'n')")
        .due(3, "greatest(0, 0, 0)").due(4, "greatest(0, 0, 5)");
    garden("0 1 0|1 1 0|1 0 -999").due(1, "corners(0)").due(0, "corner(0, 0, 'x')").due(-999, "corner(0, 0, 'y')");
    terms("They are fractions x by d and y by d, with one lower number d above 0, in lowest terms for all three");
    fractions("0 0 0|2 0 -1|0 3 -1", 3, 2, 6);
    fractions("0 0 0|2 0 -1|0 2 -2", 1, 2, 2);
    fractions("0 0 0|2 0 -2|0 2 -1", 2, 1, 2);
    fractions("0 0 0|2 0 1|0 2 3", -1, -3, 2);
    fractions("0 0 0|2 0 -4|0 4 12", 2, -3, 1);
    fractions("0 0 5|2 0 5|0 4 5", 0, 0, 1);
    fractions("0 0 0|6 0 0|0 6 -4", 0, 2, 3);
    fractions("0 0 0|8 7 0|7 8 -1", -7, 8, 15);
    fractions("0 0 0|8 1 999|1 8 -999", -999, 999, 7);
    terms("corners are ordered by x, then by y.");
    garden("0 0 0|1 0 0|0 1 -1|1 1 -1|0 2 -4|1 2 -4").due(2, "corners(0)").dueAll("corner(0, @, 'x')", 0, 0)
        .dueAll("corner(0, @, 'y')", 1, 3).dueAll("corner(0, @, 'n')", 4, 4);
    garden("0 0 0|0 3 -1|1 0 0|3 3 -1|4 1 -1|3 0 -1|0 1 0").dueAll("corner(0, @, 'x')", 0, 0, 1, 2, 1)
        .dueAll("corner(0, @, 'y')", 0, 1, 1, 1, -1).dueAll("corner(0, @, 'd')", 1, 2, 5, 7, 2);
    garden("0 0 0|0 1 0|0 2 -1|1 2 10").due(2, "corners(0)").dueAll("corner(0, @, 'x')", -11, -10)
        .dueAll("corner(0, @, 'y')", 1, 0);
    sameX("0 0 0|0 3 -1|0 5 -2|1 0 0|1 3 -1|1 5 -2", 1, 3, 1, 2);
    sameX("0 0 0|0 3 7|0 5 10|1 0 0|1 3 7|1 5 10", -7, 3, -3, 2);
    terms("The polygon of a corner is that of the powers of all terms that are the greatest there.");
    garden("0 0 0|4 0 0|0 4 0|1 1 0|2 2 0|1 0 -1").due(16, "corner(0, 0, 'a')").due(5, "corner(0, 0, 'n')")
        .due(3, "corner(0, 0, 'e')").make("term(0, 1, 0, 0)").due(6, "corner(0, 0, 'n')");
    terms("Each side of it, from vertex to vertex, stands for one edge of the curve that goes out of this corner, at a "
        + "right angle to the side");
    garden("0 0 0|4 0 0|0 4 0|1 0 0|2 0 0|3 0 0|0 2 0|2 2 0").due(3, "corner(0, 0, 'e')").due(3, "rays(0)")
        .due(3, "greatest(0, 1, 1)").due(5, "greatest(0, 0, -1)").due(3, "greatest(0, -1, 0)");
  }

  /** Two corners at x = 0, which only y can put in order: y by d of the first, then of the second. */
  private static void sameX(String polynomial, int y, int d, int nextY, int nextD) {
    garden(polynomial).due(2, "corners(0)").dueAll("corner(0, @, 'x')", 0, 0).dueAll("corner(0, @, 'y')", y, nextY)
        .dueAll("corner(0, @, 'd')", d, nextD);
  }

  private static void fractions(String polynomial, int x, int y, int d) {
    garden(polynomial).due(1, "corners(0)").due(x, "corner(0, 0, 'x')").due(y, "corner(0, 0, 'y')")
        .due(d, "corner(0, 0, 'd')");
  }

  private static void polygonWords() {
    terms("its weight is the greatest number that divides both differences of powers along the side.");
    garden("0 0 0|0 8 0|6 2 0|6 0 0").dueAll("weight(0, 0, @)", 8, 6, 2, 6);
    garden("0 0 0|4 6 0|8 0 0").dueAll("weight(0, 0, @)", 2, 2, 8);
    terms("An edge goes on for ever if all terms of the polynomial are on one side of the line of its side, on it "
        + "counted; otherwise it leads to another corner, as one and the same edge there.");
    garden("0 0 0|2 0 5|4 0 0|0 4 0").due(2, "corners(0)").due(4, "rays(0)").due(1, "links(0)")
        .dueAll("corner(0, @, 'e')", 3, 3).dueAll("weight(0, 0, @)", 4, 2, 2).dueAll("weight(0, 1, @)", 4, 2, 2);
    garden("0 0 0|1 0 0|0 1 0|1 1 -999").due(2, "corners(0)").due(4, "rays(0)").due(1, "links(0)")
        .dueAll("corner(0, @, 'e')", 3, 3);
    terms("A corner is balanced if the outward directions of its edges, each the shortest in whole numbers, times their "
        + "weights, sum to 0.");
    garden(PENTAGON, "0 0 0|8 4 0|4 8 0", "0 0 0|7 8 0|8 7 0").dueAll("isBalanced(@, 0)", true, true, true);
    terms("What cannot be reached stays so, and each corner is balanced.");
    garden(ROOM).dueAll("isBalanced(0, @)", true, true, true).matrix(". 1", ". .").make("times(0, 0)", "star(0)")
        .entries(1, ". .|. .").entries(2, "0 1|. 0").make("begin(0)", "go(50)").due(0, "time(1)");
    terms("The polygon of a polynomial is that of the powers of all its terms; areas are told twice, as whole numbers.");
    garden(TRIANGLE).due(1, "area(0)").due(1, "areaAnew(0)").due(1, "corner(0, 0, 'a')").make("term(0, 8, 8, -999)")
        .due(16, "area(0)").due(16, "areaAnew(0)");
    garden("1 2 0|3 3 0|2 5 0").due(5, "area(0)").due(5, "corner(0, 0, 'a')");
  }

  private static void meetingWords() {
    terms("Two curves meet as often as the doubled area of the polygon of the product, less those of both, divided by 2.");
    garden("0 0 0|2 0 0|0 2 0", "0 0 0|3 0 0|0 1 0").due(4, "area(0)").due(3, "area(1)").make("product(0, 1)")
        .due(19, "area(2)").due(6, "meet(0, 1)");
    terms("It is the sum, over the corners of the product, of the doubled area of the polygon there, less those of the "
        + "terms of either that are the greatest there, 0 if these are on one line, divided by 2.");
    garden("0 0 0|2 0 0|0 2 0", "0 0 0|3 0 0|0 1 0", "0 0 -5|3 0 7|0 1 2").due(6, "meetAnew(0, 1)")
        .due(6, "meetAnew(0, 2)").due(6, "meet(0, 2)").due(6, "meetAnew(2, 0)");
  }
}
