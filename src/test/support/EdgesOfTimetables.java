/** The sentences on timetables: promises 45 to 49. */
final class EdgesOfTimetables extends Edges {
  private static final String NOT_BEGUN = "Throws `IllegalStateException` if no timetable has begun";
  private static final String EVENT = "`event`: the event";
  private static final String NO_EVENT = "Throws `IllegalArgumentException` if there is no such event";
  private static final String TOO_FAR =
      "Throws `UnsupportedOperationException` if a time, of one that is never late, too, would not be -999999 to 999999";
  /** Event 0 follows event 1, event 1 itself, and event 2 has nothing to follow. */
  private static final String[] FOLLOWING = {". 1 .", ". 2 .", ". . ."};

  static void run() {
    begin();
    go();
    goTooFar();
    goTooFarOnTheWay();
    delay();
    time();
    late();
    words();
  }

  private static Bench garden(String... lines) {
    return new Bench().matrix(lines);
  }

  /** One event, whose time has gone up or down by 999 each round and stands at the last number allowed. */
  private static Bench atTheEnd(int step) {
    return garden("" + step).make("begin(0)").makeTimes(20, "go(50)").due(0, "go(1)").due(1001 * step, "time(0)");
  }

  private static void begin() {
    promise(45, "Begins a timetable with a matrix as it is.");
    garden("1 .", "2 .").make("begin(0)", "set(0, 0, 0, 9)", "clear(0, 1, 0)", "set(0, 1, 1, 5)", "go(1)")
        .due(1, "time(0)").due(2, "time(1)").make("go(1)").due(2, "time(0)").due(3, "time(1)").make("begin(0)", "go(1)")
        .due(9, "time(0)").due(5, "time(1)");
    matrixNumbers(45, "`matrix`: the number of the matrix", "begin(@)", "1 2", "3 4");
    promise(45, "Returns the number of events.");
    for (int rows = 1; rows <= 6; rows++) {
      new Bench().make("matrix(" + rows + ")").due(rows, "begin(0)").due(0, "time(" + (rows - 1) + ")")
          .outside(ARGUMENT, "time(@)", 0, rows - 1);
    }
    promise(45, "Throws `IndexOutOfBoundsException` if there is no such matrix");
    garden("5").make("begin(0)", "go(3)", "delay(0, 7)").refused(INDEX, "begin(@)", -1, 1, 12).due(22, "time(0)")
        .due(7, "late(0)").due(1, "go(1)");
    new Bench().refused(INDEX, "begin(0)").refused(STATE, "time(0)").make("matrix(1)").refused(STATE, "time(0)");
  }

  private static void go() {
    promise(46, "Lets rounds go by.");
    garden(FOLLOWING).make("begin(0)", "go(1)").dueAll("time(@)", 1, 2, 0).make("go(1)").dueAll("time(@)", 3, 4, 0)
        .make("go(3)").dueAll("time(@)", 9, 10, 0);
    promise(46, "`rounds`: how many, 1 to 50");
    garden("3").make("begin(0)").due(0, "go(1)").due(3, "time(0)").due(0, "go(50)").due(153, "time(0)").due(0, "go(49)")
        .due(300, "time(0)").outside(ARGUMENT, "go(@)", 1, 50);
    promise(46, "Returns how many events are late then.");
    garden(FOLLOWING).make("begin(0)").due(0, "go(1)").make("delay(1, 1)").due(2, "go(1)").make("delay(2, 999)")
        .due(3, "go(1)").due(3, "go(50)");
    garden("10 0", ". 1").make("begin(0)", "go(1)", "delay(1, 3)").due(1, "go(1)").due(0, "late(0)").due(3, "late(1)");
    garden(". 0", ". 5").make("begin(0)", "delay(0, 9)").due(9, "late(0)").due(0, "go(1)").due(0, "late(0)");
    Bench six = new Bench().make("matrix(6)", "begin(0)").due(0, "go(50)");
    for (int event = 0; event < 6; event++) {
      six.make("delay(" + event + ", 1)").due(event + 1, "go(1)");
    }
    promise(46, NOT_BEGUN);
    garden("1").refused(STATE, "go(1)").refused(STATE, "go(50)").refused(STATE, "go(0)").refused(STATE, "go(51)")
        .refused(STATE, "go(-2147483648)").make("begin(0)").due(0, "go(1)");
    promise(46, "Throws `IllegalArgumentException` if the number is out of range");
    garden("1").make("begin(0)").refused(ARGUMENT, "go(0)").refused(ARGUMENT, "go(51)").refused(ARGUMENT, "go(-50)")
        .due(0, "go(2)").due(2, "time(0)");
    atTheEnd(999).refused(ARGUMENT, "go(0)").refused(ARGUMENT, "go(51)").refused(UNSUPPORTED, "go(1)");
  }

  private static void goTooFar() {
    promise(46, TOO_FAR);
    for (int step : new int[] {999, -999}) {
      atTheEnd(step).refused(UNSUPPORTED, "go(1)").refused(UNSUPPORTED, "go(2)").refused(UNSUPPORTED, "go(50)")
          .due(1001 * step, "time(0)").due(0, "late(0)");
      garden("" + step).make("begin(0)").makeTimes(19, "go(50)").make("go(49)").refused(UNSUPPORTED, "go(3)")
          .refused(UNSUPPORTED, "go(50)").due(999 * step, "time(0)").due(0, "go(2)").due(1001 * step, "time(0)")
          .refused(UNSUPPORTED, "go(1)");
    }
    garden("999 .", ". 0").make("begin(0)").makeTimes(20, "go(50)").make("delay(0, 999)").due(999999, "time(0)")
        .refused(UNSUPPORTED, "go(1)").due(999, "late(0)").make("delay(1, 1)").refused(UNSUPPORTED, "go(1)")
        .due(1, "late(1)");
    garden("-999").make("begin(0)").makeTimes(20, "go(50)").make("go(1)", "delay(0, 999)").due(-999000, "time(0)")
        .refused(UNSUPPORTED, "go(1)").due(999, "late(0)").make("delay(0, 999)").refused(UNSUPPORTED, "go(1)")
        .due(1998, "late(0)").due(-998001, "time(0)");
  }

  /** Times go far apart in each odd round and come together in each even one, 1800 up or down from the last. */
  private static Bench swinging(int drift) {
    Bench made = garden("-999 .", ". 999");
    for (int number = 0; number < 6; number++) {
      made.make("times(" + number + ", " + number + ")");
    }
    return made.matrix(". " + drift, drift + " .").make("times(6, 7)", "begin(8)").makeTimes(20, "go(50)")
        .make("go(38)").due(1038 * drift, "time(0)").due(1038 * drift, "time(1)");
  }

  private static void goTooFarOnTheWay() {
    promise(46, TOO_FAR);
    for (int drift : new int[] {900, -900}) {
      swinging(drift).make("go(1)").due(1039 * drift - 63936, "time(0)").due(1039 * drift + 63936, "time(1)")
          .make("go(1)").due(1040 * drift, "time(0)").refused(UNSUPPORTED, "go(1)").refused(UNSUPPORTED, "go(2)")
          .refused(UNSUPPORTED, "go(50)").due(1040 * drift, "time(0)").due(1040 * drift, "time(1)");
      swinging(drift).refused(UNSUPPORTED, "go(4)").due(0, "go(2)");
    }
    swinging(900).make("delay(0, 999)").refused(UNSUPPORTED, "go(1)").refused(UNSUPPORTED, "go(2)").due(999, "late(0)")
        .due(0, "late(1)");
    swinging(-900).make("go(2)", "delay(1, 999)").refused(UNSUPPORTED, "go(1)").refused(UNSUPPORTED, "go(2)")
        .due(999, "late(1)").due(0, "late(0)");
  }

  private static void delay() {
    promise(47, "Delays an event.");
    garden(FOLLOWING).make("begin(0)").due(5, "delay(1, 5)").dueAll("time(@)", 0, 5, 0).dueAll("late(@)", 0, 5, 0)
        .make("go(1)").dueAll("time(@)", 6, 7, 0).dueAll("late(@)", 5, 5, 0);
    promise(47, EVENT);
    new Bench().make("matrix(6)", "matrix(1)", "begin(0)").due(1, "delay(0, 1)").due(2, "delay(5, 2)")
        .outside(ARGUMENT, "delay(@, 1)", 0, 5).make("begin(1)").outside(ARGUMENT, "delay(@, 1)", 0, 0);
    promise(47, "`by`: by how much, 1 to 999");
    garden(". .", ". .").make("begin(0)").due(1, "delay(0, 1)").due(1000, "delay(0, 999)").due(999, "delay(1, 999)")
        .outside(ARGUMENT, "delay(0, @)", 1, 999);
    promise(47, "Returns its time then.");
    garden("-7").make("begin(0)", "go(3)").due(-20, "delay(0, 1)").due(979, "delay(0, 999)").due(979, "time(0)");
    atTheEnd(-999).due(-999998, "delay(0, 1)").due(-998999, "delay(0, 999)").due(1000, "late(0)");
    promise(47, NOT_BEGUN);
    garden("1").refused(STATE, "delay(0, 1)").refused(STATE, "delay(1, 1)").refused(STATE, "delay(0, 0)")
        .refused(STATE, "delay(-1, 1000)").make("begin(0)").due(1, "delay(0, 1)");
    promise(47, "Throws `IllegalArgumentException` if there is no such event, or the number is out of range");
    garden("1").make("begin(0)").refused(ARGUMENT, "delay(1, 1)").refused(ARGUMENT, "delay(-1, 1)")
        .refused(ARGUMENT, "delay(0, 0)").refused(ARGUMENT, "delay(0, 1000)").refused(ARGUMENT, "delay(1, 1000)")
        .due(0, "late(0)");
    atTheEnd(999).refused(ARGUMENT, "delay(1, 1)").refused(ARGUMENT, "delay(0, 0)").refused(ARGUMENT, "delay(0, 1000)")
        .refused(ARGUMENT, "delay(0, 2147483647)").refused(UNSUPPORTED, "delay(0, 999)");
    promise(47, "Throws `UnsupportedOperationException` if its time would be more than 999999");
    atTheEnd(999).refused(UNSUPPORTED, "delay(0, 1)").refused(UNSUPPORTED, "delay(0, 2)").due(0, "late(0)");
    garden("999 .", ". 0").make("begin(0)").makeTimes(20, "go(50)").due(999998, "delay(0, 998)")
        .refused(UNSUPPORTED, "delay(0, 2)").due(999999, "delay(0, 1)").refused(UNSUPPORTED, "delay(0, 1)")
        .due(999, "delay(1, 999)").due(999, "late(0)").due(999999, "time(0)");
  }

  private static void time() {
    promise(48, "Returns the time of an event.");
    garden(FOLLOWING).make("begin(0)").dueAll("time(@)", 0, 0, 0).make("go(2)").dueAll("time(@)", 3, 4, 0);
    promise(48, EVENT);
    new Bench().make("matrix(6)", "matrix(3)", "begin(0)").dueAll("time(@)", 0, 0, 0, 0, 0, 0)
        .outside(ARGUMENT, "time(@)", 0, 5).make("begin(1)").outside(ARGUMENT, "time(@)", 0, 2);
    promise(48, "Returns the time.");
    atTheEnd(999).due(999999, "time(0)");
    atTheEnd(-999).due(-999999, "time(0)");
    promise(48, NOT_BEGUN);
    garden("1").refused(STATE, "time(0)").refused(STATE, "time(1)").refused(STATE, "time(-1)");
    promise(48, NO_EVENT);
    garden("1").make("begin(0)").refused(ARGUMENT, "time(1)").refused(ARGUMENT, "time(-1)").due(0, "time(0)");
  }

  private static void late() {
    promise(49, "Returns by how much an event is late.");
    garden(FOLLOWING).make("begin(0)", "go(1)", "delay(1, 7)").dueAll("late(@)", 0, 7, 0).make("go(1)")
        .dueAll("late(@)", 7, 7, 0);
    promise(49, EVENT);
    new Bench().make("matrix(6)", "matrix(3)", "begin(0)", "delay(5, 4)").dueAll("late(@)", 0, 0, 0, 0, 0, 4)
        .outside(ARGUMENT, "late(@)", 0, 5).make("begin(1)").dueAll("late(@)", 0, 0, 0)
        .outside(ARGUMENT, "late(@)", 0, 2);
    promise(49, "Returns the number.");
    garden(". .", "10 0").make("begin(0)").makeTimes(100, "delay(1, 999)").due(99900, "late(1)").due(1, "go(1)")
        .due(99890, "late(1)").due(99900, "time(1)").due(0, "late(0)").make("begin(0)").due(0, "late(1)");
    promise(49, NOT_BEGUN);
    garden("1").refused(STATE, "late(0)").refused(STATE, "late(1)").refused(STATE, "late(-1)");
    promise(49, NO_EVENT);
    garden("1").make("begin(0)").refused(ARGUMENT, "late(1)").refused(ARGUMENT, "late(-1)").due(0, "late(0)");
  }

  private static void words() {
    terms("A timetable has a matrix and an event for each row, all at time 0 at first, beside it one that is never "
        + "late.");
    garden("4 .", ". 6").make("begin(0)").dueAll("time(@)", 0, 0).dueAll("late(@)", 0, 0).make("go(5)", "delay(0, 2)")
        .dueAll("time(@)", 22, 30).make("begin(0)").dueAll("time(@)", 0, 0).dueAll("late(@)", 0, 0)
        .refused(ARGUMENT, "time(2)");
    terms("In a round, the time of each event becomes the greatest sum of an entry of its row and the time of that event; "
        + "one without entries keeps its time.");
    garden("1 .", "1 .").make("begin(0)", "go(1)").dueAll("time(@)", 1, 1).make("go(1)").dueAll("time(@)", 2, 2);
    garden("1 -5", "3 -999").make("begin(0)", "go(1)").dueAll("time(@)", 1, 3).make("delay(1, 50)", "go(1)")
        .dueAll("time(@)", 48, 4).make("go(1)").dueAll("time(@)", 49, 51);
    garden(". .", "-3 .").make("begin(0)", "delay(0, 9)", "delay(1, 5)", "go(1)").dueAll("time(@)", 9, 6)
        .dueAll("late(@)", 9, 9).make("go(50)").dueAll("time(@)", 9, 6);
    garden(". .", ". .").make("begin(0)", "delay(1, 5)", "go(50)").dueAll("time(@)", 0, 5);
    terms("A delay is added to one event.");
    garden("0 0", "0 0").make("begin(0)", "delay(0, 3)").dueAll("time(@)", 3, 0).make("delay(0, 4)")
        .dueAll("time(@)", 7, 0).due(2, "go(1)").dueAll("time(@)", 7, 7).dueAll("late(@)", 7, 7);
  }
}
