import java.util.List;

/** What the document tells of a matrix in two ways: both must be the same wherever both answer. */
final class PairsOfMatrices {
  private static final int MOST = 99999;

  private PairsOfMatrices() {
  }

  static void run() {
    for (MatrixSample sample : MatrixSample.all()) {
      Checks.at(sample.kind() + ", " + sample.name());
      Asked garden = new Asked();
      int matrix = sample.make(garden);
      Integer[][] entries = entriesOf(garden, matrix, sample.rows().length);
      if (sample.squarings() == 0) {
        Checks.due(java.util.Arrays.deepEquals(sample.rows(), entries), "the entries are not those that were told");
      }
      means(sample, garden, matrix, entries);
      eigenvector(sample, garden, matrix, entries);
      assignments(sample, garden, matrix, entries);
      stars(sample, entries);
      hulls(sample);
      rounds(sample, entries);
      soundness(sample, entries);
    }
    cases();
  }

  private static void cases() {
    for (String kind : new String[] {MatrixSample.ONE, MatrixSample.ORDINARY, MatrixSample.FULL,
        MatrixSample.UNASSIGNED, MatrixSample.GROWN}) {
      Checks.wasMet("means agree, " + kind);
      Checks.wasMet("eigenvector is moved by the mean, " + kind);
    }
    for (String kind : new String[] {MatrixSample.ONE, MatrixSample.ORDINARY, MatrixSample.FULL, MatrixSample.GROWN}) {
      Checks.wasMet("columns sum to the weight, " + kind);
    }
    Checks.wasMet("no cycle, " + MatrixSample.UNCYCLED);
    Checks.wasMet("no cycle, " + MatrixSample.ONE);
    Checks.wasMet("no assignment, " + MatrixSample.UNASSIGNED);
    Checks.wasMet("no assignment, " + MatrixSample.UNCYCLED);
    Checks.wasMet("star closes, " + MatrixSample.UNCYCLED);
    Checks.wasMet("star closes, " + MatrixSample.ORDINARY);
    Checks.wasMet("star closes, " + MatrixSample.FULL);
    Checks.wasMet("no star: a cycle is above 0");
    Checks.wasMet("no star: an entry would be too far");
    Checks.wasMet("eigenvector is a column of a star");
    Checks.wasMet("an entry of an eigenvector is missing");
    for (int lower = 1; lower <= 6; lower++) {
      Checks.wasMet("lower number " + lower);
    }
    Checks.wasMet("several greatest assignments");
    Checks.wasMet("one greatest assignment");
    Checks.wasMet("rounds are products");
  }

  private static Integer[][] entriesOf(Asked garden, int matrix, int size) {
    Integer[][] found = new Integer[size][size];
    for (int row = 0; row < size; row++) {
      for (int column = 0; column < size; column++) {
        Object got = garden.ask("entry", matrix, row, column);
        Checks.due(got instanceof Integer || got == Checks.MISSING, "entry gave " + got);
        found[row][column] = got instanceof Integer ? (Integer) got : null;
      }
    }
    return found;
  }

  private static Long more(Long one, Long other) {
    return one == null ? other : other == null ? one : (Long) Math.max(one, other);
  }

  private static Long both(Integer one, Long other) {
    return one == null || other == null ? null : (Long) (one + other);
  }

  /** The greatest weights of ways of just so many entries. */
  private static Long[][] waysOf(Integer[][] entries, int length) {
    int size = entries.length;
    Long[][] ways = new Long[size][size];
    for (int row = 0; row < size; row++) {
      ways[row][row] = 0L;
    }
    for (int k = 0; k < length; k++) {
      Long[][] next = new Long[size][size];
      for (int row = 0; row < size; row++) {
        for (int column = 0; column < size; column++) {
          for (int by = 0; by < size; by++) {
            next[row][column] = more(next[row][column], both(entries[row][by], ways[by][column]));
          }
        }
      }
      ways = next;
    }
    return ways;
  }

  private static boolean hasCycle(Integer[][] entries) {
    for (int length = 1; length <= entries.length; length++) {
      Long[][] ways = waysOf(entries, length);
      for (int row = 0; row < entries.length; row++) {
        if (ways[row][row] != null) {
          return true;
        }
      }
    }
    return false;
  }

  private static int divisor(int a, int b) {
    return b == 0 ? Math.abs(a) : divisor(b, a % b);
  }

  /** Promises 35 and 36, and 54 with 35. */
  private static void means(MatrixSample sample, Asked garden, int matrix, Integer[][] entries) {
    Object upper = garden.ask("mean", matrix, false);
    Object lower = garden.ask("mean", matrix, true);
    Checks.same(upper, garden.ask("meanAnew", matrix, false), "the upper number of meanAnew");
    Checks.same(lower, garden.ask("meanAnew", matrix, true), "the lower number of meanAnew");
    if (!hasCycle(entries)) {
      Checks.same(Checks.MISSING, upper, "mean");
      Checks.same(Checks.MISSING, lower, "mean");
      Checks.same(Checks.MISSING, garden.ask("meanOf", matrix), "meanOf");
      Checks.same(0, garden.ask("critical", matrix), "critical");
      Checks.meet("no cycle, " + sample.kind());
      return;
    }
    if (!(upper instanceof Integer) || !(lower instanceof Integer)) {
      Checks.due(false, "mean gave " + upper + " and " + lower);
      return;
    }
    int n = (Integer) upper;
    int d = (Integer) lower;
    Checks.due(d > 0 && d <= entries.length && divisor(n, d) == 1, "mean is " + n + " by " + d);
    Checks.same((double) n / (double) d, garden.ask("meanOf", matrix), "meanOf");
    Checks.meet("means agree, " + sample.kind());
    Checks.meet("lower number " + d);
    for (int length = 1; length <= entries.length; length++) {
      for (int row = 0; row < entries.length; row++) {
        Long back = waysOf(entries, length)[row][row];
        Checks.due(back == null || back * d <= (long) n * length, "a cycle of " + length + " has a greater mean");
      }
    }
  }

  /** Promise 38, by what promise 55 says of it: times the matrix, it is moved by the mean alone. */
  private static void eigenvector(MatrixSample sample, Asked garden, int matrix, Integer[][] entries) {
    int size = entries.length;
    Object upper = garden.ask("mean", matrix, false);
    Object[] vector = new Object[size];
    for (int row = 0; row < size; row++) {
      vector[row] = garden.ask("eigen", matrix, row);
      if (upper == Checks.MISSING) {
        Checks.same(Checks.MISSING, vector[row], "eigen");
      }
    }
    Checks.same(Checks.ARGUMENT, garden.ask("eigen", matrix, size), "eigen of no row");
    if (upper == Checks.MISSING) {
      return;
    }
    long n = garden.number("mean", matrix, false);
    long d = garden.number("mean", matrix, true);
    int critical = garden.number("critical", matrix);
    Checks.due(critical > 0 && critical < 1 << size, "critical is " + critical);
    Checks.same(0, vector[Math.min(size - 1, Integer.numberOfTrailingZeros(critical))], "eigen of the lowest critical");
    for (int row = 0; row < size; row++) {
      Long moved = null;
      for (int column = 0; column < size; column++) {
        if (entries[row][column] != null && vector[column] instanceof Integer) {
          moved = more(moved, entries[row][column] * d - n + (Integer) vector[column]);
        }
      }
      Checks.same(moved == null ? "" + Checks.MISSING : "" + moved, "" + vector[row], "eigen of row " + row);
      if (moved == null) {
        Checks.meet("an entry of an eigenvector is missing");
      }
    }
    Checks.meet("eigenvector is moved by the mean, " + sample.kind());
    eigenByStar(entries, vector, critical, n, d);
  }

  /** Promise 38 with 34, where the entries times the lower number, less the upper one, can be told. */
  private static void eigenByStar(Integer[][] entries, Object[] vector, int critical, long n, long d) {
    int size = entries.length;
    Integer[][] scaled = new Integer[size][size];
    for (int place = 0; place < size * size; place++) {
      Integer entry = entries[place / size][place % size];
      if (entry != null && Math.abs(entry * d - n) > 999) {
        return;
      }
      scaled[place / size][place % size] = entry == null ? null : (Integer) (int) (entry * d - n);
    }
    Asked garden = new Asked();
    int star = garden.number("star", garden.matrix(scaled));
    for (int row = 0; row < size; row++) {
      Checks.same(garden.ask("entry", star, row, Integer.numberOfTrailingZeros(critical)), vector[row],
          "eigen of row " + row + ", by the star");
    }
    Checks.meet("eigenvector is a column of a star");
  }

  /** The greatest weight, how many assignments have it, and the columns of the first one. */
  private static final class Best {
    private long weight = Long.MIN_VALUE;
    private int count;
    private int[] columns;

    private void tryRow(Integer[][] entries, int row, int[] chosen, long sum) {
      if (row == entries.length) {
        if (sum > weight) {
          weight = sum;
          count = 0;
          columns = chosen.clone();
        }
        count += sum == weight ? 1 : 0;
        return;
      }
      for (int column = 0; column < entries.length; column++) {
        boolean isFree = true;
        for (int before = 0; before < row; before++) {
          isFree &= chosen[before] != column;
        }
        if (isFree && entries[row][column] != null) {
          chosen[row] = column;
          tryRow(entries, row + 1, chosen, sum + entries[row][column]);
        }
      }
    }
  }

  /** Promises 39 and 40, and 41 and 42 by all assignments tried. */
  private static void assignments(MatrixSample sample, Asked garden, int matrix, Integer[][] entries) {
    int size = entries.length;
    Best best = new Best();
    best.tryRow(entries, 0, new int[size], 0);
    Object weight = garden.ask("assignment", matrix);
    Checks.same(best.count != 1, garden.ask("isSingular", matrix), "isSingular");
    int rank = garden.number("rank", matrix);
    Checks.same(best.count == 1, rank == size, "rank " + rank + " as the number of rows");
    boolean isEmpty = true;
    for (int place = 0; place < size * size; place++) {
      isEmpty &= entries[place / size][place % size] == null;
    }
    Checks.same(isEmpty, rank == 0, "rank " + rank + " as 0");
    Checks.same(Checks.ARGUMENT, garden.ask("assigned", matrix, size), "assigned of no row");
    if (best.count == 0) {
      Checks.same(Checks.MISSING, weight, "assignment");
      for (int row = 0; row < size; row++) {
        Checks.same(Checks.MISSING, garden.ask("assigned", matrix, row), "assigned");
      }
      Checks.meet("no assignment, " + sample.kind());
      return;
    }
    long sum = 0;
    int used = 0;
    for (int row = 0; row < size; row++) {
      int column = garden.number("assigned", matrix, row);
      Checks.same(best.columns[row], column, "assigned of row " + row);
      Object entry = garden.ask("entry", matrix, row, column);
      Checks.due(entry instanceof Integer, "the entry of row " + row + " is " + entry);
      sum += entry instanceof Integer ? (Integer) entry : 0;
      used |= 1 << column;
    }
    Checks.same((1 << size) - 1, used, "the columns of all rows");
    Checks.same("" + sum, "" + weight, "assignment");
    Checks.same("" + best.weight, "" + weight, "assignment");
    Checks.meet("columns sum to the weight, " + sample.kind());
    Checks.meet(best.count > 1 ? "several greatest assignments" : "one greatest assignment");
  }

  /** Promise 34 with 35 and with the words on ways. */
  private static void stars(MatrixSample sample, Integer[][] entries) {
    Asked garden = new Asked();
    int matrix = sample.make(garden);
    Object upper = garden.ask("mean", matrix, false);
    Object star = garden.ask("star", matrix);
    if (upper instanceof Integer && (Integer) upper > 0) {
      Checks.same(Checks.UNSUPPORTED, star, "star");
      Checks.meet("no star: a cycle is above 0");
      return;
    }
    int size = entries.length;
    Long[][] want = new Long[size][size];
    boolean isFar = false;
    for (int length = 0; length <= size; length++) {
      Long[][] ways = waysOf(entries, length);
      for (int place = 0; place < size * size; place++) {
        Long longer = more(want[place / size][place % size], ways[place / size][place % size]);
        want[place / size][place % size] = longer;
      }
    }
    for (int place = 0; place < size * size; place++) {
      Long each = want[place / size][place % size];
      isFar |= each != null && Math.abs(each) > MOST;
    }
    if (isFar) {
      Checks.same(Checks.UNSUPPORTED, star, "star");
      Checks.meet("no star: an entry would be too far");
      return;
    }
    Checks.due(star instanceof Integer, "star gave " + star);
    if (star instanceof Integer) {
      Integer[][] found = entriesOf(garden, (Integer) star, size);
      Checks.same(java.util.Arrays.deepToString(want), java.util.Arrays.deepToString(found), "the star's entries");
      int twice = garden.number("times", (Integer) star, (Integer) star);
      Checks.due(java.util.Arrays.deepEquals(found, entriesOf(garden, twice, size)), "star times star is another one");
      Checks.meet("star closes, " + sample.kind());
    }
  }

  /** Promise 44 with 33: each column of a product is a sum of columns of its first matrix. */
  private static void hulls(MatrixSample sample) {
    Asked garden = new Asked();
    int matrix = sample.make(garden);
    int size = sample.rows().length;
    Integer[][] other = new Integer[size][size];
    Draw draw = new Draw(size * 100 + sample.name().length());
    for (int place = 0; place < size * size; place++) {
      other[place / size][place % size] = draw.below(3) == 0 ? null : (Integer) draw.between(-9, 9);
    }
    Object product = garden.ask("times", matrix, garden.matrix(other));
    for (int column = 0; column < size; column++) {
      Checks.due(garden.isTrue("isHeld", matrix, matrix, column), "a column is not held by its own matrix");
      if (product instanceof Integer) {
        Checks.due(garden.isTrue("isHeld", matrix, product, column), "a column of a product is not held");
      }
    }
  }

  /** Promises 46 and 48 with 33: rounds are products, where each row has an entry. */
  private static void rounds(MatrixSample sample, Integer[][] entries) {
    int size = entries.length;
    for (int length = 1; length <= 4; length++) {
      Long[][] ways = waysOf(entries, length);
      Asked garden = new Asked();
      int matrix = sample.make(garden);
      Checks.same(size, garden.ask("begin", matrix), "begin");
      boolean isFull = true;
      Long[] want = new Long[size];
      for (int row = 0; row < size; row++) {
        for (int column = 0; column < size; column++) {
          want[row] = more(want[row], ways[row][column]);
        }
        isFull &= want[row] != null && Math.abs(want[row]) <= 999999;
      }
      Object late = garden.ask("go", length);
      if (!isFull || late instanceof Class) {
        return;
      }
      Checks.same(0, late, "go");
      for (int row = 0; row < size; row++) {
        Checks.same("" + want[row], "" + garden.ask("time", row), "time of " + row + " behind " + length + " rounds");
        Checks.same(0, garden.ask("late", row), "late");
      }
      Checks.meet("rounds are products");
    }
  }

  /** Promises 55 and 52. */
  private static void soundness(MatrixSample sample, Integer[][] entries) {
    Asked garden = new Asked();
    sample.make(garden);
    if (sample.squarings() == 0) {
      long print = 7;
      for (Integer[] row : List.of(entries)) {
        for (Integer entry : row) {
          print = 31 * print + (entry == null ? 1 : 2 * entry);
        }
      }
      Checks.same(31 * print, garden.ask("print"), "print");
    }
    Object before = garden.ask("print");
    Checks.due(garden.isTrue("isSound"), "the garden is not sound");
    Checks.same(before, garden.ask("print"), "print behind isSound");
  }
}
