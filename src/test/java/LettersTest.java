import java.util.NoSuchElementException;

/** Promises 30 to 42: what is asked about letters. */
public final class LettersTest {
    private static final Class<IllegalArgumentException> ARGUMENT = IllegalArgumentException.class;
    private static final Class<NoSuchElementException> ELEMENT = NoSuchElementException.class;

    public static void main(String[] args) {
        plainQuestions();
        placesOfLetters();
        wrongLetters();
        hoursUntilOpen();
        ranks();
        codes();
        Due.end();
    }

    private static void plainQuestions() {
        SledgePost post = Posts.inARow();
        Due.is("30 none", 0, post.letterCount());
        Due.fails("31 none", ELEMENT, () -> post.letterAt(0));
        post.post(0, 1, 3, 50, 25);
        post.post(4, 2, 9, 0, 1);
        Due.is("30 two", 2, post.letterCount());
        Due.is("31 first", 0, post.letterAt(0));
        Due.is("31 second", 1, post.letterAt(1));
        Due.fails("31 behind", ELEMENT, () -> post.letterAt(2));
        Due.fails("31 negative", ELEMENT, () -> post.letterAt(-1));
        Due.is("32 destination", 1, post.destinationOf(0));
        Due.is("32 of the other", 2, post.destinationOf(1));
        Due.is("33 weight", 3, post.weightOf(0));
        Due.is("33 of the other", 9, post.weightOf(1));
        Due.is("34 fee", 50, post.feeOf(0));
        Due.is("34 of the other", 0, post.feeOf(1));
        Due.is("35 ice", 25, post.iceOf(0));
        Due.is("36 closed", false, post.isOpen(1));
        post.setTemperature(1);
        post.advance(1);
        Due.is("35 less ice", 24, post.iceOf(0));
        Due.is("36 open", true, post.isOpen(1));
        Due.is("36 other closed", false, post.isOpen(0));
    }

    private static void placesOfLetters() {
        SledgePost post = Posts.inARow();
        post.addSledge(2, 9);
        post.addSledge(0, 9);
        post.post(0, 3, 1, 1, 1);
        post.post(2, 1, 1, 1, 1);
        Due.is("38 waits", 0, post.stationOfLetter(0));
        Due.is("38 the other", 2, post.stationOfLetter(1));
        Due.fails("37 waits", ELEMENT, () -> post.sledgeOf(0));
        post.load(1, 0);
        Due.is("37 on a sledge", 1, post.sledgeOf(0));
        Due.fails("38 on a sledge", ELEMENT, () -> post.stationOfLetter(0));
        post.load(0, 1);
        Due.is("37 on sledge 0", 0, post.sledgeOf(1));
        post.send(1, 1);
        Due.is("37 on the way", 1, post.sledgeOf(0));
        post.advance(5);
        Due.is("37 after the way", 1, post.sledgeOf(0));
        post.unload(1, 0);
        Due.is("38 after the way", 1, post.stationOfLetter(0));
        Due.fails("37 unloaded", ELEMENT, () -> post.sledgeOf(0));
    }

    private static void wrongLetters() {
        SledgePost post = Posts.inARow();
        post.addSledge(0, 9);
        post.post(0, 1, 1, 1, 1);
        post.post(0, 2, 1, 1, 1);
        post.load(0, 0);
        post.send(0, 1);
        post.advance(5);
        Due.is("31 after a delivery", 1, post.letterAt(0));
        Due.is("30 after a delivery", 1, post.letterCount());
        for (int wrong : new int[] {0, 2, -1, Integer.MAX_VALUE, Integer.MIN_VALUE}) {
            Due.fails("32", ELEMENT, () -> post.destinationOf(wrong));
            Due.fails("33", ELEMENT, () -> post.weightOf(wrong));
            Due.fails("34", ELEMENT, () -> post.feeOf(wrong));
            Due.fails("35", ELEMENT, () -> post.iceOf(wrong));
            Due.fails("36", ELEMENT, () -> post.isOpen(wrong));
            Due.fails("37", ELEMENT, () -> post.sledgeOf(wrong));
            Due.fails("38", ELEMENT, () -> post.stationOfLetter(wrong));
            Due.fails("39", ELEMENT, () -> post.hoursUntilOpen(wrong));
            Due.fails("41", ELEMENT, () -> post.codeOf(wrong));
        }
    }

    private static void hoursUntilOpen() {
        SledgePost post = Posts.withStations(2);
        post.post(0, 1, 1, 1, 9);
        post.post(0, 1, 1, 1, 1);
        Due.fails("39 at 0 degrees", ELEMENT, () -> post.hoursUntilOpen(0));
        post.setTemperature(-1);
        Due.fails("39 in frost", ELEMENT, () -> post.hoursUntilOpen(0));
        int[] due = {9, 5, 3, 3, 2, 2, 2, 2, 1, 1};
        for (int degrees = 1; degrees <= 10; degrees++) {
            post.setTemperature(degrees);
            Due.is("39 at " + degrees, due[degrees - 1], post.hoursUntilOpen(0));
        }
        post.setTemperature(4);
        post.advance(2);
        Due.is("39 after two hours", 1, post.hoursUntilOpen(0));
        Due.is("39 open", 0, post.hoursUntilOpen(1));
        post.setTemperature(-5);
        Due.is("39 open in frost", 0, post.hoursUntilOpen(1));
        post.setTemperature(0);
        Due.is("39 open at 0 degrees", 0, post.hoursUntilOpen(1));
    }

    private static void ranks() {
        SledgePost post = Posts.withStations(2);
        Due.fails("40 none", ELEMENT, () -> post.letterByFee(0));
        post.post(0, 1, 5, 10, 1);
        post.post(0, 1, 5, 30, 1);
        post.post(0, 1, 4, 10, 1);
        post.post(0, 1, 9, 99, 1);
        post.post(0, 1, 5, 30, 1);
        post.post(0, 1, 1, 0, 1);
        int[] due = {3, 1, 4, 2, 0, 5};
        for (int rank = 0; rank < due.length; rank++) {
            Due.is("40 rank " + rank, due[rank], post.letterByFee(rank));
        }
        Due.fails("40 behind", ELEMENT, () -> post.letterByFee(6));
        Due.fails("40 negative", ELEMENT, () -> post.letterByFee(-1));
    }

    private static void codes() {
        SledgePost post = Posts.withStations(7);
        post.post(1, 0, 1, 1, 1);
        post.post(0, 1, 1, 1, 1);
        post.post(0, 2, 1, 1, 1);
        post.post(0, 6, 1, 1, 1);
        int[] due = {98, 1165, 2232, 3687};
        for (int id = 0; id < due.length; id++) {
            int code = due[id];
            Due.is("41 code of " + id, code, post.codeOf(id));
            Due.is("42 with the code of " + id, id, post.letterByCode(code));
            Due.fails("42 one more", ARGUMENT, () -> post.letterByCode(code + 1));
            Due.fails("42 the next valid one", ELEMENT, () -> post.letterByCode(code + 97));
        }
        for (int id = 4; id < 12; id++) {
            post.post(0, 6, 1, 1, 1);
        }
        Due.is("41 code of a later letter", 11641, post.codeOf(11));
        Due.is("42 a later letter", 11, post.letterByCode(11641));
        Due.fails("42 valid but no letter", ELEMENT, () -> post.letterByCode(1));
        Due.fails("42 nought", ARGUMENT, () -> post.letterByCode(0));
        Due.fails("42 negative", ARGUMENT, () -> post.letterByCode(-96));
        Due.fails("42 negative with remainder", ARGUMENT, () -> post.letterByCode(-1));
        Due.fails("42 least", ARGUMENT, () -> post.letterByCode(Integer.MIN_VALUE));
        Due.fails("42 another destination", ELEMENT, () -> post.letterByCode(98 + 97 * 9));
    }
}
