import java.io.IOException;
import java.nio.file.Path;

/** Each sentence of the document, by its own words, with a test of its own; one that is left out fails, too. */
public final class MaxGardenEdges {
  public static void main(String[] arguments) throws IOException {
    Edges.start(new Doc(Path.of(System.getProperty("project.root", "."), "../shared/DOC.md")));
    Edges.free("The algebra where sums are the greatest and products are sums: polynomials in two letters");
    Edges.free("How the state is held inside the object is free, as are the speed of each call");
    Edges.free("Use of one object from several threads at once is not promised to be safe.");
    EdgesOfPolynomials.run();
    EdgesOfCurves.run();
    EdgesOfMatrices.run();
    EdgesOfTimetables.run();
    EdgesOfFigures.run();
    EdgesOfRefusals.run();
    if (Edges.finish() != 0) {
      System.exit(1);
    }
  }
}
