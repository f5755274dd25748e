import java.util.ArrayList;
import java.util.List;

/** A matrix to try, told by its entries, and how often it is then multiplied by itself. */
record MatrixSample(String kind, String name, Integer[][] rows, int squarings) {
  static final String ONE = "one row";
  static final String ORDINARY = "ordinary";
  static final String FULL = "6 rows without a gap";
  static final String UNCYCLED = "without a cycle";
  static final String UNASSIGNED = "without an assignment";
  static final String GROWN = "multiplied by itself";

  /** Makes it in a garden; returns its number there. */
  int make(Asked garden) {
    int number = garden.matrix(rows);
    for (int k = 0; k < squarings; k++) {
      number = garden.number("times", number, number);
    }
    return number;
  }

  static List<MatrixSample> all() {
    List<MatrixSample> list = new ArrayList<>();
    list.add(new MatrixSample(ONE, "nothing", new Integer[1][1], 0));
    for (int entry : new int[] {-999, -1, 0, 1, 999}) {
      list.add(new MatrixSample(ONE, "one entry " + entry, new Integer[][] {{entry}}, 0));
    }
    addUncycled(list);
    addUnassigned(list);
    addOrdinary(list);
    addFullest(list);
    addGrown(list);
    addRings(list);
    return list;
  }

  private static int spreadOf(Draw draw) {
    return new int[] {0, 1, 3, 40, 999}[draw.below(5)];
  }

  /** Entries lead only from an earlier to a later one of the rows, in some order. */
  private static void addUncycled(List<MatrixSample> list) {
    Draw draw = new Draw(21);
    for (int number = 0; number < 40; number++) {
      int size = 1 + number % 6;
      int step = size == 5 || size == 6 ? 5 : 1;
      int spread = spreadOf(draw);
      Integer[][] rows = new Integer[size][size];
      for (int from = 0; from < size; from++) {
        for (int to = from + 1; to < size; to++) {
          if (number < 8 || draw.below(3) > 0) {
            rows[from * step % size][to * step % size] = draw.between(-spread, spread);
          }
        }
      }
      list.add(new MatrixSample(UNCYCLED, "uncycled " + number, rows, 0));
    }
  }

  /** Some rows have entries in fewer columns than they are, though cycles may be there. */
  private static void addUnassigned(List<MatrixSample> list) {
    Draw draw = new Draw(22);
    for (int number = 0; number < 40; number++) {
      int size = 2 + number % 5;
      int narrow = 1 + draw.below(size);
      int spread = spreadOf(draw);
      int shift = draw.below(size);
      Integer[][] rows = new Integer[size][size];
      for (int row = 0; row < size; row++) {
        for (int column = 0; column < size; column++) {
          if (row >= narrow || column < narrow - 1) {
            rows[(row + shift) % size][(column + shift) % size] = draw.between(-spread, spread);
          }
        }
      }
      list.add(new MatrixSample(UNASSIGNED, "unassigned " + number, rows, 0));
    }
  }

  private static void addOrdinary(List<MatrixSample> list) {
    Draw draw = new Draw(23);
    for (int number = 0; number < 400; number++) {
      int size = 2 + number % 5;
      int spread = spreadOf(draw);
      int sink = draw.below(3) * draw.below(spread + 1);
      int gaps = draw.below(4);
      Integer[][] rows = new Integer[size][size];
      for (int row = 0; row < size; row++) {
        for (int column = 0; column < size; column++) {
          if (draw.below(5) >= gaps) {
            rows[row][column] = Math.max(-999, draw.between(-spread, spread) - sink);
          }
        }
      }
      list.add(new MatrixSample(ORDINARY, "drawn " + number, rows, 0));
    }
  }

  private static void addFullest(List<MatrixSample> list) {
    for (int shape = 0; shape < 24; shape++) {
      Draw draw = new Draw(200 + shape);
      Integer[][] rows = new Integer[6][6];
      for (int row = 0; row < 6; row++) {
        for (int column = 0; column < 6; column++) {
          rows[row][column] = fullest(shape, row, column, draw);
        }
      }
      list.add(new MatrixSample(FULL, "full " + shape, rows, 0));
    }
  }

  private static int fullest(int shape, int row, int column, Draw draw) {
    return switch (shape) {
      case 0 -> 0;
      case 1 -> 999;
      case 2 -> -999;
      case 3 -> row == column ? 999 : -999;
      case 4 -> (row + 1) % 6 == column ? 999 : -999;
      case 5 -> (row + 1) % 6 == column ? row == 5 ? 998 : 999 : -999;
      case 6 -> row * column;
      case 7 -> -row * column;
      case 8 -> row - column;
      case 9 -> -Math.abs(row - column);
      case 10 -> draw.between(-999, 0);
      case 11 -> draw.between(0, 1);
      case 12 -> draw.between(-1, 0);
      default -> draw.between(-999, 999);
    };
  }

  /** Entries far beyond those that can be told. */
  private static void addGrown(List<MatrixSample> list) {
    Draw draw = new Draw(24);
    for (int number = 0; number < 40; number++) {
      int size = 1 + number % 6;
      int gaps = draw.below(3);
      Integer[][] rows = new Integer[size][size];
      for (int row = 0; row < size; row++) {
        for (int column = 0; column < size; column++) {
          if (draw.below(5) >= gaps) {
            rows[row][column] = number % 2 == 0 ? draw.between(-999, 999) : draw.between(-999, -1);
          }
        }
      }
      list.add(new MatrixSample(GROWN, "grown " + number, rows, 1 + number % 6));
    }
  }

  /** One cycle over all rows, whose lower number is that of the rows, and ways that are too far once they have grown. */
  private static void addRings(List<MatrixSample> list) {
    for (int size = 2; size <= 6; size++) {
      for (int last : new int[] {-998, 999, 0}) {
        Integer[][] rows = new Integer[size][size];
        for (int row = 0; row < size; row++) {
          rows[row][(row + 1) % size] = row < size - 1 ? last == 0 ? 0 : -999 : last;
        }
        list.add(new MatrixSample(ORDINARY, "ring of " + size + " with " + last, rows, 0));
        list.add(new MatrixSample(GROWN, "grown ring of " + size + " with " + last, rows, 6));
      }
    }
  }
}
