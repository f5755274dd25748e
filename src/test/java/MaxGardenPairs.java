/**
 * What the document tells in two ways, asked in both: over ordinary polynomials and matrices, the smallest and the
 * fullest ones, terms on one line, and matrices without a cycle or without an assignment.
 */
public final class MaxGardenPairs {
  public static void main(String[] arguments) {
    PairsOfPolynomials.run();
    PairsOfMatrices.run();
    Checks.finish("pairs");
  }
}
