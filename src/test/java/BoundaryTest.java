/**
 * Each sentence of DOC.md that names a boundary, with a test of its own: too small, too large,
 * empty, full, the first, the last, and refused calls. What is wrong is printed with its promise.
 */
public final class BoundaryTest {
    public static void main(String[] args) {
        BoundariesOfMaking.run();
        BoundariesOfWork.run();
        BoundariesOfHours.run();
        BoundariesOfStations.run();
        BoundariesOfSledges.run();
        BoundariesOfLetters.run();
        BoundariesOfTotals.run();
        BoundariesOfScripts.run();
        BoundariesOfUndo.run();
        Sentence.endOfBoundaries();
        Due.end();
    }
}
