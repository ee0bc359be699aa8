/**
 * The document from its first promise to its last: each sentence that names no boundary, with a test of
 * its own that makes ordinary calls. What is wrong is printed with its promise. BoundaryTest has the others.
 */
public final class OrdinaryTest {
    public static void main(String[] args) {
        OrdinaryChanges.run();
        OrdinaryStations.run();
        OrdinarySledges.run();
        OrdinaryLetters.run();
        OrdinaryTotals.run();
        OrdinaryTexts.run();
        Sentence.endOfOrdinary();
        Due.end();
    }
}
