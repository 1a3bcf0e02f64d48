/** For each sentence of the document that names a boundary case, a test of its own; none is forgotten. */
public final class BoundaryTest {
    public static void main(String[] args) {
        EdgesOfBells.all();
        EdgesOfTime.all();
        EdgesOfStrokes.all();
        EdgesOfTexts.all();
        EdgesOfPatterns.all();
        EdgesOfProgramme.all();
        EdgesOfSwinging.all();
        EdgesOfTower.all();
        EdgesOfRefusals.all();
        Doc.allTaken();
        Check.end();
    }
}
