import com.sun.management.ThreadMXBean;
import java.lang.management.ManagementFactory;
import java.util.ArrayList;
import java.util.List;
import java.util.Map;
import java.util.TreeMap;

/**
 * Runs of just 512 calls on one object, begun with the fullest polynomials and matrices, each answer held against the
 * model; the last two calls are isSound() and print().
 */
public final class MaxGardenFullRuns {
  private static final String[] BEGINNINGS = {"five told polynomials", "twelve told matrices", "both", "products",
      "far coefficients", "far entries", "no room left"};

  private static final long MOST_BYTES = 1000000;

  private final Twins twins;
  private final Draw draw;
  private final int number;
  private final List<PolySample> fullPolys = new ArrayList<>();
  private final List<MatrixSample> fullMatrices = new ArrayList<>();

  private MaxGardenFullRuns(int number, Map<String, Integer> seen) {
    this.number = number;
    twins = new Twins("full run " + number + ", " + BEGINNINGS[number % BEGINNINGS.length], seen);
    draw = new Draw(3000 + number);
    for (PolySample sample : PolySample.all()) {
      if (sample.kind().equals(PolySample.FULL)) {
        fullPolys.add(sample);
      }
    }
    for (MatrixSample sample : MatrixSample.all()) {
      if (sample.kind().equals(MatrixSample.FULL)) {
        fullMatrices.add(sample);
      }
    }
  }

  public static void main(String[] arguments) {
    int runs = arguments.length > 0 ? Integer.parseInt(arguments[0]) : 70;
    Map<String, Integer> seen = new TreeMap<>();
    int wrong = 0;
    for (int number = 0; number < runs && wrong < 20; number++) {
      MaxGardenFullRuns run = new MaxGardenFullRuns(number, seen);
      run.begin();
      run.goOn();
      run.end();
      wrong += run.twins.wrong();
    }
    wrong += runs < 70 ? 0 : Twins.unseenKinds(seen);
    wrong += isRoomKept() ? 0 : 1;
    System.out.println("full runs: " + runs + " of 512 calls, " + wrong + " wrong");
    if (wrong != 0) {
      System.exit(1);
    }
  }

  /** The dearest calls make little: products that are refused as there are 12 matrices, and all that isSound looks at. */
  private static boolean isRoomKept() {
    ThreadMXBean threads = (ThreadMXBean) ManagementFactory.getThreadMXBean();
    long thread = Thread.currentThread().getId();
    long before = threads.getThreadAllocatedBytes(thread);
    MaxGarden garden = new MaxGarden();
    garden.poly();
    for (int cell = 0; cell < 81; cell++) {
      garden.term(0, cell / 9, cell % 9, -(cell / 9) * (cell / 9) - cell / 9 * (cell % 9) - cell % 9 * (cell % 9));
    }
    for (int call = 0; call < 9; call++) {
      garden.sum(0, call);
    }
    for (int call = 0; call < 12; call++) {
      garden.matrix(6);
    }
    for (int call = 0; call < 409; call++) {
      if (call % 4 > 0) {
        garden.isSound();
      } else {
        try {
          garden.times(0, 1);
        } catch (IllegalStateException e) {
          continue;
        }
      }
    }
    long made = threads.getThreadAllocatedBytes(thread) - before;
    if (made > MOST_BYTES) {
      System.out.println("a run of 512 calls made " + made + " bytes");
    }
    return made <= MOST_BYTES;
  }

  private void begin() {
    switch (number % BEGINNINGS.length) {
      case 0:
        tellPolys(5);
        fillBySums();
        break;
      case 1:
        tellMatrices(12);
        break;
      case 2:
        tellPolys(2);
        tellMatrices(4);
        fillBySums();
        fillByMatrixSums();
        break;
      case 3:
        tellSquares();
        tellMatrices(3);
        fillByMatrixSums();
        break;
      case 4:
        tellFarCoefficients();
        break;
      case 5:
        tellFarEntries();
        break;
      default:
        tellPolys(1);
        tellRoots();
        tellMatrices(1);
        times(8, "poly");
        times(11, "matrix", 6);
    }
  }

  private void times(int count, String call, Object... values) {
    for (int k = 0; k < count; k++) {
      twins.both(call, values);
    }
  }

  private void tell(int poly, int[][] terms) {
    twins.both("poly");
    for (int[] term : terms) {
      twins.both("term", poly, term[0], term[1], term[2]);
    }
  }

  private void tellPolys(int count) {
    for (int k = 0; k < count; k++) {
      tell(twins.model.polys.size(), fullPolys.get((number / BEGINNINGS.length + k * 3) % fullPolys.size()).terms());
    }
  }

  /** All nine terms of x alone; everything that can be asked of its roots. */
  private void tellRoots() {
    int poly = twins.model.polys.size();
    int[][] terms = new int[9][];
    for (int i = 0; i <= 8; i++) {
      terms[i] = new int[] {i, 0, -draw.below(9) * i - number * i * i / 7};
    }
    tell(poly, terms);
    twins.both("turnsAnew", poly);
    twins.both("roots", poly);
    for (int index = 0; index <= 8; index++) {
      twins.both("root", poly, index, 'n');
      twins.both("root", poly, index, 'd');
      twins.both("root", poly, index, 't');
    }
  }

  private void tellMatrices(int count) {
    for (int k = 0; k < count; k++) {
      int matrix = twins.model.matrices.size();
      Integer[][] rows = fullMatrices.get((number / BEGINNINGS.length + k * 5) % fullMatrices.size()).rows();
      twins.both("matrix", 6);
      for (int place = 0; place < 36; place++) {
        twins.both("set", matrix, place / 6, place % 6, rows[place / 6][place % 6]);
      }
    }
  }

  private void fillBySums() {
    for (int k = 0; twins.model.polys.size() < 10; k++) {
      twins.both("sum", k % twins.model.polys.size(), draw.below(twins.model.polys.size()));
    }
  }

  private void fillByMatrixSums() {
    for (int k = 0; twins.model.matrices.size() < 12; k++) {
      String call = new String[] {"plus", "times", "plus"}[k % 3];
      twins.both(call, draw.below(twins.model.matrices.size()), draw.below(twins.model.matrices.size()));
    }
  }

  /** Two of 25 terms, whose products have all 81. */
  private void tellSquares() {
    for (int poly = 0; poly < 2; poly++) {
      List<int[]> terms = new ArrayList<>();
      int bend = draw.below(5);
      for (int cell = 0; cell < 25; cell++) {
        int i = cell / 5;
        int j = cell % 5;
        terms.add(new int[] {i, j, -bend * (i * i + j * j) - draw.below(3) * i * j + draw.between(-2, 2) * (poly + 1)});
      }
      tell(poly, terms.toArray(new int[0][]));
    }
    twins.both("product", 0, 1);
    twins.both("product", 0, 0);
    twins.both("product", 1, 1);
    fillBySums();
  }

  /** A constant is doubled by each product with itself, so that all terms of the last have six digits. */
  private void tellFarCoefficients() {
    tellPolys(1);
    tell(1, new int[][] {{0, 0, number % 2 == 0 ? 999 : -999}});
    for (int poly = 1; poly < 8; poly++) {
      twins.both("product", poly, poly);
    }
    twins.both("product", 0, 8);
    twins.both("write", 9);
    tellMatrices(2);
  }

  /** Entries are doubled, too, until they are refused; then a timetable by them. */
  private void tellFarEntries() {
    tellMatrices(1);
    for (int matrix = 0; matrix < 8; matrix++) {
      twins.both("times", twins.model.matrices.size() - 1, twins.model.matrices.size() - 1);
    }
    twins.both("begin", twins.model.matrices.size() - 1);
    for (int round = 0; round < 12; round++) {
      twins.both("delay", draw.below(6), draw.between(1, 999));
      twins.both("go", draw.between(1, 3));
      twins.both("time", round % 6);
      twins.both("late", round % 6);
    }
    upToTheLast("go", 20, 1);
    upToTheLast("delay", 70, number % 6, 999);
    tellPolys(1);
  }

  private void upToTheLast(String call, int most, Object... values) {
    String want = "";
    for (int k = 0; k < most && !want.startsWith("throws."); k++) {
      want = twins.both(call, values);
    }
  }

  /** One run in twenty asks for the dearest call again and again; in the others, calls are drawn from all. */
  private void goOn() {
    DrawnCalls drawn = new DrawnCalls(7000 + number, number % 6);
    while (twins.calls() < Twins.MOST_CALLS - 2) {
      if (number % 20 == 0) {
        twins.both("isSound");
      } else {
        drawn.make(drawn.next(), twins);
      }
    }
  }

  private void end() {
    twins.both("isSound");
    twins.both("print");
    if (twins.calls() != Twins.MOST_CALLS) {
      throw new AssertionError("the run has " + twins.calls() + " calls");
    }
  }
}
