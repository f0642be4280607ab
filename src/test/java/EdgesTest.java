import java.io.IOException;

/** Each sentence of the document that names a boundary, with the calls inside it and outside it. */
public final class EdgesTest {
    public static void main(String[] args) throws IOException {
        Edge edge = new Edge();
        new EdgesOfTerms(edge).check();
        new EdgesOfLetters(edge).check();
        new EdgesOfMeasures(edge).check();
        new EdgesOfTold(edge).check();
        new EdgesOfSides(edge).check();
        new EdgesOfSpread(edge).check();
        new EdgesOfLoss(edge).check();
        new EdgesOfLists(edge).check();
        new EdgesOfChanges(edge).check();
        edge.end();
    }
}
