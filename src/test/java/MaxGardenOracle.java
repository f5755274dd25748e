import java.util.Map;
import java.util.TreeMap;

/** Long runs of drawn calls on MaxGarden and on a plain model that finds each answer by the document's own words. */
public final class MaxGardenOracle {
  private static final int DRAWN = 480;

  private MaxGardenOracle() {
  }

  public static void main(String[] arguments) {
    int runs = arguments.length > 0 ? Integer.parseInt(arguments[0]) : 700;
    int wrong = 0;
    Map<String, Integer> seen = new TreeMap<>();
    for (int run = 0; run < runs && wrong < 20; run++) {
      wrong += run(run, seen);
    }
    wrong += runs < 200 ? 0 : Twins.unseenKinds(seen);
    System.out.println(wrong == 0 ? "oracle: all answers agree in " + runs + " runs" : "oracle: " + wrong + " wrong");
    if (wrong != 0) {
      System.exit(1);
    }
  }

  private static int run(int number, Map<String, Integer> seen) {
    Twins twins = new Twins("run " + number, seen);
    int style = number % 6;
    DrawnCalls drawn = new DrawnCalls(number, style);
    if (style == 4) {
      fillMatrix(new Draw(number + 5), twins);
    }
    for (int call = 0; twins.calls() < DRAWN && twins.wrong() == 0; call++) {
      String want = drawn.make(call < 60 ? drawn.first() : drawn.next(), twins);
      if (want.startsWith("throws.") && call % 4 == 0) {
        twins.both("print");
      }
    }
    for (int event = 0; event < twins.model.begun; event++) {
      twins.both("time", event);
      twins.both("late", event);
    }
    twins.both("isSound");
    twins.both("print");
    return twins.wrong();
  }

  /** Distances need each place of a lower and a higher row, which drawn calls alone seldom fill. */
  private static void fillMatrix(Draw draw, Twins twins) {
    int rows = draw.between(4, 6);
    twins.both("matrix", rows);
    for (int place = 0; place < rows * rows; place++) {
      twins.both("set", 0, place / rows, place % rows, draw.between(0, 2));
    }
    twins.both("unlike", 0);
  }
}
