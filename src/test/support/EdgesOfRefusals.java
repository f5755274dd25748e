/** What is said of exceptions: each kind that a call can throw, in gardens where there is much that could change. */
final class EdgesOfRefusals extends Edges {
  /** Each call with each exception that the document gives it, for the garden of several(). */
  private static final String[] EACH = {
    INDEX + " term(4, 0, 0, 0)", ARGUMENT + " term(0, 9, 0, 0)", INDEX + " drop(4, 0, 0)", MISSING + " drop(0, 3, 3)",
    INDEX + " terms(4)", INDEX + " coefficient(4, 0, 0)", MISSING + " coefficient(0, 3, 3)", INDEX + " value(4, 0, 0)",
    ARGUMENT + " value(0, 10000, 0)", MISSING + " value(2, 0, 0)", INDEX + " greatest(4, 0, 0)",
    ARGUMENT + " greatest(0, 0, 10000)", INDEX + " sum(0, 4)", INDEX + " sum(4, 0)", INDEX + " product(0, 4)",
    INDEX + " product(4, 0)", UNSUPPORTED + " product(0, 3)", INDEX + " isNeeded(4, 0, 0)",
    MISSING + " isNeeded(0, 3, 3)", INDEX + " needed(4)", INDEX + " isSame(0, 4)", INDEX + " isSame(4, 0)",
    INDEX + " roots(4)", UNSUPPORTED + " roots(0)", UNSUPPORTED + " roots(2)", INDEX + " root(4, 0, 'n')",
    UNSUPPORTED + " root(0, 0, 'n')", ARGUMENT + " root(1, 0, 'x')", MISSING + " root(1, 2, 'n')",
    INDEX + " turnsAnew(4)", UNSUPPORTED + " turnsAnew(0)", INDEX + " corners(4)", UNSUPPORTED + " corners(1)",
    INDEX + " corner(4, 0, 'x')", UNSUPPORTED + " corner(1, 0, 'x')", ARGUMENT + " corner(0, 0, 't')",
    MISSING + " corner(0, 4, 'x')", INDEX + " weight(4, 0, 0)", UNSUPPORTED + " weight(2, 0, 0)",
    MISSING + " weight(0, 4, 0)", MISSING + " weight(0, 0, 3)", INDEX + " isBalanced(4, 0)",
    UNSUPPORTED + " isBalanced(3, 0)", MISSING + " isBalanced(0, 4)", INDEX + " rays(4)", UNSUPPORTED + " rays(1)",
    INDEX + " links(4)", UNSUPPORTED + " links(2)", INDEX + " genus(4)", UNSUPPORTED + " genus(3)", INDEX + " area(4)",
    INDEX + " areaAnew(4)", UNSUPPORTED + " areaAnew(1)", INDEX + " meet(0, 4)", INDEX + " meet(4, 0)",
    UNSUPPORTED + " meet(0, 2)", UNSUPPORTED + " meet(0, 3)", INDEX + " meetAnew(0, 4)", INDEX + " meetAnew(4, 0)",
    UNSUPPORTED + " meetAnew(2, 0)", UNSUPPORTED + " meetAnew(3, 0)", UNSUPPORTED + " meetAnew(1, 1)",
    ARGUMENT + " matrix(7)", INDEX + " set(4, 0, 0, 0)", ARGUMENT + " set(0, 3, 0, 0)", ARGUMENT + " set(0, 0, 0, 1000)",
    INDEX + " clear(4, 0, 0)", ARGUMENT + " clear(0, 0, 3)", INDEX + " entry(4, 0, 0)", ARGUMENT + " entry(0, 3, 0)",
    MISSING + " entry(0, 0, 0)", INDEX + " plus(0, 4)", INDEX + " plus(4, 0)", UNSUPPORTED + " plus(0, 1)",
    INDEX + " times(0, 4)", INDEX + " times(4, 0)", UNSUPPORTED + " times(0, 1)", INDEX + " star(4)",
    UNSUPPORTED + " star(3)", INDEX + " mean(4, true)", MISSING + " mean(1, true)", INDEX + " meanAnew(4, false)",
    MISSING + " meanAnew(1, false)", INDEX + " critical(4)", INDEX + " eigen(4, 0)", ARGUMENT + " eigen(0, 3)",
    MISSING + " eigen(1, 0)", INDEX + " assignment(4)", MISSING + " assignment(1)", INDEX + " assigned(4, 0)",
    ARGUMENT + " assigned(0, 3)", MISSING + " assigned(1, 0)", INDEX + " isSingular(4)", INDEX + " rank(4)",
    INDEX + " unlike(4)", UNSUPPORTED + " unlike(0)", MISSING + " unlike(2)", INDEX + " isHeld(0, 4, 0)",
    INDEX + " isHeld(4, 0, 0)", UNSUPPORTED + " isHeld(0, 1, 0)", ARGUMENT + " isHeld(0, 0, 3)", INDEX + " begin(4)",
    ARGUMENT + " go(51)", ARGUMENT + " delay(3, 1)", ARGUMENT + " delay(0, 1000)", ARGUMENT + " time(3)",
    ARGUMENT + " late(3)", INDEX + " write(4)", MISSING + " sign(13)", INDEX + " neededShare(4)",
    ARITHMETIC + " neededShare(2)", INDEX + " meanOf(4)", MISSING + " meanOf(1)"};

  /** Calls to which two exceptions or more apply, with the one that the document names first, for the same garden. */
  private static final String[] FIRST = {
    INDEX + " term(4, 9, -1, 1000)", INDEX + " drop(4, 3, 3)", INDEX + " coefficient(-1, 9, 9)",
    INDEX + " value(4, 10000, 0)", ARGUMENT + " value(2, 0, -10000)", INDEX + " greatest(-1, 0, 10000)",
    INDEX + " isNeeded(4, 9, 0)", INDEX + " root(4, -1, 'x')", UNSUPPORTED + " root(2, -1, 'x')",
    UNSUPPORTED + " root(0, 0, 'x')", UNSUPPORTED + " root(0, 99, 'n')", ARGUMENT + " root(1, 2, 'x')",
    INDEX + " corner(4, -1, 't')", UNSUPPORTED + " corner(1, -1, 't')", UNSUPPORTED + " corner(2, 0, 't')",
    UNSUPPORTED + " corner(3, 9, 'x')", ARGUMENT + " corner(0, 4, 't')", ARGUMENT + " corner(0, -1, 'A')",
    INDEX + " weight(4, -1, -1)", UNSUPPORTED + " weight(1, 0, 9)", UNSUPPORTED + " weight(2, 9, 0)",
    INDEX + " isBalanced(4, -1)", UNSUPPORTED + " isBalanced(2, 7)", INDEX + " meet(2, 4)", INDEX + " meet(4, 2)",
    INDEX + " meetAnew(2, 4)", INDEX + " meetAnew(4, 2)", INDEX + " set(4, 3, 3, 1000)", INDEX + " clear(-1, 9, 9)",
    INDEX + " entry(4, -1, 0)", ARGUMENT + " entry(1, 2, 0)", INDEX + " eigen(4, 9)", ARGUMENT + " eigen(1, 2)",
    ARGUMENT + " eigen(1, -1)", INDEX + " assigned(4, 9)", ARGUMENT + " assigned(1, 2)", INDEX + " isHeld(0, 4, 9)",
    INDEX + " isHeld(4, 1, -1)", UNSUPPORTED + " isHeld(0, 1, 2)", UNSUPPORTED + " isHeld(1, 0, -1)"};

  /** Likewise for the garden of most(), where nothing can be added. */
  private static final String[] FULL = {
    STATE + " poly()", STATE + " sum(0, 1)", STATE + " product(0, 1)", STATE + " matrix(1)", STATE + " matrix(6)",
    STATE + " plus(0, 0)", STATE + " times(0, 0)", STATE + " star(1)", INDEX + " sum(10, 0)", INDEX + " sum(0, -1)",
    INDEX + " product(0, 10)", INDEX + " product(10, 3)", STATE + " product(0, 3)", STATE + " product(3, 3)",
    ARGUMENT + " matrix(0)", ARGUMENT + " matrix(7)", INDEX + " plus(0, 12)", INDEX + " plus(12, 0)",
    UNSUPPORTED + " plus(0, 1)", INDEX + " times(0, 12)", INDEX + " times(12, 0)", UNSUPPORTED + " times(1, 0)",
    INDEX + " star(12)", INDEX + " star(-1)", UNSUPPORTED + " star(3)", UNSUPPORTED + " star(0)"};

  /** Likewise as long as no timetable has begun. */
  private static final String[] NOT_BEGUN = {
    STATE + " go(1)", STATE + " go(0)", STATE + " go(51)", STATE + " delay(0, 1)", STATE + " delay(3, 1)",
    STATE + " delay(0, 0)", STATE + " delay(-1, 1000)", STATE + " time(0)", STATE + " time(3)", STATE + " late(0)",
    STATE + " late(-1)"};

  static void run() {
    terms("A method that throws an exception changes nothing.");
    refuseAll(several().make("begin(0)", "go(3)", "delay(1, 9)"), EACH);
    refuseAll(several(), NOT_BEGUN);
    refuseAll(most(), FULL);
    terms("If several exceptions apply, the one that is documented first is thrown.");
    refuseAll(several().make("begin(0)", "go(3)", "delay(1, 9)"), FIRST);
    refuseAll(most(), FULL);
    refuseAll(several(), NOT_BEGUN);
  }

  private static void refuseAll(Bench garden, String[] all) {
    for (String each : all) {
      int space = each.indexOf(' ');
      garden.refused(each.substring(0, space), each.substring(space + 1));
    }
  }

  private static Bench several() {
    return new Bench().poly("0 0 0", "1 0 1", "0 1 1", "1 1 1", "2 0 0", "0 2 0").poly("0 0 0", "2 0 1", "3 0 -4")
        .poly().poly("8 8 1", "0 0 0").matrix(". 2 .", ". 0 3", "-4 . .").matrix(". 1", ". .")
        .matrix(". 3 5 6", ". . 4 5", ". . . 7", ". . . .").matrix("5").make("write(1)");
  }

  private static Bench most() {
    return several().makeTimes(6, "poly()").makeTimes(8, "matrix(2)").make("begin(2)", "go(1)", "delay(0, 4)");
  }
}
