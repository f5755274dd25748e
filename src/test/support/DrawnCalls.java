/** Calls that look drawn, mostly of numbers that there are, now and then of those beside them. */
final class DrawnCalls {
  private static final String[] CALLS = {
    "poly", "term pijc", "drop pij", "terms p", "coefficient pij", "value pxx", "greatest pxx", "sum pp",
    "product pp", "isNeeded pij", "needed p", "isSame pp", "roots p", "root pkw", "turnsAnew p", "corners p",
    "corner pkw", "weight pkk", "isBalanced pk", "rays p", "links p", "genus p", "area p", "areaAnew p",
    "meet pp", "meetAnew pp", "matrix n", "set mrre", "clear mrr", "entry mrr", "plus mm", "times mm", "star m",
    "mean mb", "meanAnew mb", "critical m", "eigen mr", "assignment m", "assigned mr", "isSingular m", "rank m",
    "unlike m", "isHeld mmr", "begin m", "go R", "delay rB", "time r", "late r", "write p", "sign s", "print",
    "neededShare p", "meanOf m", "isSound"};

  private final Draw draw;
  /** Which numbers are drawn: 0 high powers, 1 few, 2 of x alone, 3 far ones, 4 distances, 5 long timetables. */
  private final int style;

  DrawnCalls(long seed, int style) {
    draw = new Draw(seed);
    this.style = style;
  }

  /** Draws a call of the first kinds, by which polynomials and matrices come to be. */
  String first() {
    int kind = draw.below(10);
    if (kind == 0) {
      return "poly";
    }
    if (kind == 1) {
      return "matrix n";
    }
    return kind < 6 ? "term pijc" : "set mrre";
  }

  String next() {
    if (style == 4 && draw.below(3) == 0) {
      return draw.below(2) == 0 ? "term pijc" : "set mrre";
    }
    if (style == 5 && draw.below(2) == 0) {
      return new String[] {"go R", "go R", "delay rB", "time r", "late r", "times mm"}[draw.below(6)];
    }
    return CALLS[draw.below(CALLS.length)];
  }

  /** Makes a call with numbers that are drawn for the kinds behind its name. */
  String make(String chosen, Twins twins) {
    int space = chosen.indexOf(' ');
    String kinds = space < 0 ? "" : chosen.substring(space + 1);
    Object[] values = new Object[kinds.length()];
    for (int k = 0; k < values.length; k++) {
      values[k] = valueOf(kinds.charAt(k), twins.model);
    }
    return twins.both(space < 0 ? chosen : chosen.substring(0, space), values);
  }

  private Object valueOf(char kind, Model model) {
    boolean isOdd = draw.below(40) == 0;
    if (draw.below(300) == 0 && "pmijcexknrRBs".indexOf(kind) >= 0) {
      return new int[] {Integer.MIN_VALUE, Integer.MIN_VALUE + 1, Integer.MAX_VALUE - 1,
          Integer.MAX_VALUE}[draw.below(4)];
    }
    switch (kind) {
      case 'p':
        return isOdd ? draw.between(-1, 10) : draw.below(Math.max(1, model.polys.size()));
      case 'm':
        return isOdd ? draw.between(-1, 12) : draw.below(Math.max(1, model.matrices.size()));
      case 'i':
        return isOdd ? draw.between(-1, 9) : draw.below(style == 0 ? 9 : style == 1 ? 3 : 5);
      case 'j':
        return isOdd ? draw.between(-1, 9) : style == 2 && draw.below(12) != 0 ? 0 : draw.below(style == 0 ? 9 : 4);
      case 'c':
      case 'e':
        return isOdd ? new int[] {-1000, -999, 999, 1000}[draw.below(4)]
            : style == 3 ? draw.between(-999, 999) : style == 5 ? draw.between(980, 999) : draw.between(-4, 3);
      case 'x':
        return isOdd ? new int[] {-10000, -9999, 9999, 10000}[draw.below(4)] : draw.between(-6, 6);
      case 'k':
        return isOdd ? draw.between(-2, 9) : draw.below(4);
      case 'w':
        return "ndtxyaezq".charAt(draw.below(9));
      case 'n':
        return isOdd ? draw.between(0, 7) : draw.between(1, 6);
      case 'r':
        return isOdd ? draw.between(-1, 6) : draw.below(style == 1 ? 3 : 6);
      case 'b':
        return draw.below(2) == 0;
      case 'R':
        return isOdd ? draw.between(0, 51) : draw.between(1, 4) * (style == 5 || draw.below(8) == 0 ? 12 : 1);
      case 'B':
        return isOdd ? new int[] {0, 1, 999, 1000}[draw.below(4)] : draw.between(1, 999);
      default:
        return draw.between(-1, 40);
    }
  }
}
