import java.util.function.Supplier;

/** Boundary sentences of the promises 30 to 42: what is asked about letters. */
final class BoundariesOfLetters {
    private static final String NO_LETTER = "Throws `NoSuchElementException` if there is no such letter in the post";
    // The letter 3 of the busy post is delivered, the next one would be 6.
    private static final int[] NO_LETTERS = {3, 6, 7, -1, 256, 65536, Integer.MIN_VALUE, Integer.MAX_VALUE};

    private BoundariesOfLetters() {
    }

    static void run() {
        Sentence.each(
                BoundariesOfLetters::noneAndTwelve,
                BoundariesOfLetters::firstPosition,
                BoundariesOfLetters::noPosition,
                () -> withoutLetter(32, SledgePost::destinationOf),
                () -> withoutLetter(33, SledgePost::weightOf),
                () -> withoutLetter(34, SledgePost::feeOf),
                () -> withoutLetter(35, SledgePost::iceOf),
                () -> withoutLetter(36, SledgePost::isOpen),
                () -> withoutLetter(37, SledgePost::sledgeOf),
                () -> withoutLetter(38, SledgePost::stationOfLetter),
                () -> withoutLetter(39, SledgePost::hoursUntilOpen),
                () -> withoutLetter(41, SledgePost::codeOf),
                BoundariesOfLetters::limits,
                BoundariesOfLetters::noneOrAllIce,
                BoundariesOfLetters::openOrNot,
                BoundariesOfLetters::remainsOpen,
                BoundariesOfLetters::onSledgeOrWaiting,
                BoundariesOfLetters::sledgeOfWaiting,
                BoundariesOfLetters::stationOfLoaded,
                BoundariesOfLetters::hoursAsThingsAre,
                BoundariesOfLetters::openAtOnce,
                BoundariesOfLetters::neverOpen,
                BoundariesOfLetters::firstRank,
                BoundariesOfLetters::tiesOfRanks,
                BoundariesOfLetters::noRank,
                BoundariesOfLetters::leastAndGreatestCodes,
                BoundariesOfLetters::remainderOne,
                BoundariesOfLetters::negative,
                BoundariesOfLetters::notValid,
                BoundariesOfLetters::validWithoutLetter);
    }

    private static void noneAndTwelve() {
        Sentence.of(30, "Returns the number of letters in the post.");
        SledgePost post = Posts.inARow();
        post.addSledge(0, 30);
        Due.is("none", 0, post.letterCount());
        for (int i = 1; i <= 12; i++) {
            post.post(0, 1, 1, 1, 1);
            Due.is("so far", i, post.letterCount());
        }
        Due.fails("no thirteenth", Due.STATE, () -> post.post(0, 1, 1, 1, 1));
        Due.is("still", 12, post.letterCount());
        post.loadBest(0);
        Due.is("also on a sledge", 12, post.letterCount());
        post.send(0, 1);
        post.advance(5);
        Due.is("all delivered", 0, post.letterCount());
    }

    private static void firstPosition() {
        Sentence.of(31, "the position in the order of ids, counted from 0");
        SledgePost post = Scenes.full();
        int[] due = {0, 1, 2, 4, 5, 6, 7, 8, 9, 10, 11, 12};
        for (int i = 0; i < 12; i++) {
            Due.is("position " + i, due[i], post.letterAt(i));
        }
        Due.fails("no twelfth", Due.ELEMENT, () -> post.letterAt(12));
    }

    private static void noPosition() {
        Sentence.of(31, "Throws `NoSuchElementException` if there is no such position");
        Refusal.ofEach("position", Due.ELEMENT, Scenes::busy, Refusal.outside(5), SledgePost::letterAt);
        Refusal.ofEach("of twelve", Due.ELEMENT, Scenes::full, Refusal.outside(12), SledgePost::letterAt);
        Refusal.ofEach("of none", Due.ELEMENT, Scenes::fresh, Refusal.outside(0), SledgePost::letterAt);
        Due.is("the last", 5, Scenes.busy().letterAt(4));
        Due.is("the first", 0, Scenes.busy().letterAt(0));
    }

    private static SledgePost oneUndone() {
        SledgePost post = Posts.withStations(2);
        post.post(0, 1, 1, 1, 1);
        post.undo();
        return post;
    }

    private static void withoutLetter(int promise, Refusal.ActWith question) {
        Sentence.of(promise, NO_LETTER);
        Refusal.ofEach("letter", Due.ELEMENT, Scenes::busy, NO_LETTERS, question);
        Refusal.of("in a full post", Due.ELEMENT, Scenes::full, post -> question.on(post, 13));
        Refusal.of("in a new post", Due.ELEMENT, Scenes::fresh, post -> question.on(post, 0));
        Refusal.of("one that is undone", Due.ELEMENT, BoundariesOfLetters::oneUndone, post -> question.on(post, 0));
    }

    private static void limits() {
        Sentence.ofTerms(32, "A letter has a destination, which is a station, a weight from 1 to 9, a fee from 0 to 99");
        SledgePost post = Posts.withStations(7);
        post.post(1, 0, 1, 0, 1);
        post.post(1, 6, 9, 99, 99);
        Due.is("the first station", 0, post.destinationOf(0));
        Due.is("the last station", 6, post.destinationOf(1));
        Due.is("the least weight", 1, post.weightOf(0));
        Due.is("the greatest weight", 9, post.weightOf(1));
        Due.is("no fee", 0, post.feeOf(0));
        Due.is("the greatest fee", 99, post.feeOf(1));
    }

    private static void noneOrAllIce() {
        Sentence.ofTerms(35, "The ice of its seal is as much as the strength initially.");
        SledgePost post = Posts.withStations(2);
        post.post(0, 1, 1, 1, 1);
        post.post(0, 1, 1, 1, 99);
        Due.is("the least", 1, post.iceOf(0));
        Due.is("the most", 99, post.iceOf(1));
        post.setTemperature(10);
        post.advance(9);
        Due.is("none", 0, post.iceOf(0));
        Due.is("some", 9, post.iceOf(1));
        post.advance(1);
        Due.is("none of the other", 0, post.iceOf(1));
    }

    private static void openOrNot() {
        Sentence.of(36, "Returns true if it is open.");
        SledgePost post = Posts.withStations(2);
        post.post(0, 1, 1, 1, 10);
        post.post(0, 1, 1, 1, 11);
        Due.is("ice 10", false, post.isOpen(0));
        post.setTemperature(10);
        post.advance(1);
        Due.is("ice 0", true, post.isOpen(0));
        Due.is("ice 1", false, post.isOpen(1));
        post.advance(1);
        Due.is("ice 1 at 10 degrees", true, post.isOpen(1));
    }

    private static void remainsOpen() {
        Sentence.ofTerms(36, "A letter whose ice is 0 is open, and remains so.");
        SledgePost post = Posts.withStations(2);
        post.post(0, 1, 1, 1, 1);
        post.setTemperature(1);
        post.advance(1);
        for (int degrees : new int[] {-30, -1, 0, 10}) {
            post.setTemperature(degrees);
            post.advance(48);
            Due.is("open after " + degrees, true, post.isOpen(0));
            Due.is("no ice after " + degrees, 0, post.iceOf(0));
        }
    }

    private static void onSledgeOrWaiting() {
        Sentence.ofTerms(37, "A letter waits in a station, or it is on a sledge.");
        SledgePost post = Scenes.full();
        for (int i = 0; i < 12; i++) {
            int letter = post.letterAt(i);
            boolean onSledge = Due.outcome(() -> post.sledgeOf(letter)) instanceof Integer;
            boolean waits = Due.outcome(() -> post.stationOfLetter(letter)) instanceof Integer;
            Due.is("one of both for " + letter, true, onSledge != waits);
        }
    }

    private static void sledgeOfWaiting() {
        Sentence.of(37, "or it waits in a station");
        Refusal.ofEach("waits", Due.ELEMENT, Scenes::busy, new int[] {1, 2, 5}, SledgePost::sledgeOf);
        SledgePost post = Scenes.full();
        Due.is("on the first", 0, post.sledgeOf(0));
        Due.is("on one that travels", 1, post.sledgeOf(4));
        post.unload(0, 0);
        Due.fails("unloaded", Due.ELEMENT, () -> post.sledgeOf(0));
        post.load(2, 0);
        Due.is("on the last", 2, post.sledgeOf(0));
    }

    private static void stationOfLoaded() {
        Sentence.of(38, "or it is on a sledge");
        Refusal.of("on one that stands", Due.ELEMENT, Scenes::busy, post -> post.stationOfLetter(0));
        Refusal.of("on one that travels", Due.ELEMENT, Scenes::busy, post -> post.stationOfLetter(4));
        SledgePost post = Scenes.busy();
        Due.is("waits in the first", 0, post.stationOfLetter(1));
        Due.is("waits elsewhere", 3, post.stationOfLetter(5));
        post.unload(0, 0);
        Due.is("unloaded", 0, post.stationOfLetter(0));
        post.load(0, 1);
        Due.fails("loaded", Due.ELEMENT, () -> post.stationOfLetter(1));
    }

    private static void hoursAsThingsAre() {
        Sentence.of(39, "if the temperature stays as it is and the letter is not delivered before.");
        for (int strength : new int[] {1, 9, 10, 11, 20, 21, 98, 99}) {
            for (int degrees : new int[] {1, 2, 9, 10}) {
                SledgePost post = Posts.withStations(2);
                post.post(0, 1, 1, 1, strength);
                post.setTemperature(degrees);
                int hours = post.hoursUntilOpen(0);
                for (int hour = 0; hour < hours; hour++) {
                    Due.is(strength + " at " + degrees + ", too early", false, post.isOpen(0));
                    post.advance(1);
                }
                Due.is(strength + " at " + degrees, true, post.isOpen(0));
            }
        }
        SledgePost post = Posts.inARow();
        post.addSledge(0, 9);
        post.post(0, 1, 1, 1, 99);
        post.load(0, 0);
        post.send(0, 1);
        post.setTemperature(1);
        Due.is("though it is delivered before", 99, post.hoursUntilOpen(0));
    }

    private static void openAtOnce() {
        Sentence.of(39, "Returns the number of hours, 0 if it is open.");
        SledgePost post = Posts.withStations(2);
        post.post(0, 1, 1, 1, 1);
        post.setTemperature(10);
        Due.is("not yet", 1, post.hoursUntilOpen(0));
        post.advance(1);
        for (int degrees : new int[] {10, 1, 0, -1, -30}) {
            post.setTemperature(degrees);
            Due.is("open at " + degrees, 0, post.hoursUntilOpen(0));
        }
    }

    private static Supplier<SledgePost> at(int degrees) {
        return () -> {
            SledgePost post = Scenes.busy();
            post.setTemperature(degrees);
            return post;
        };
    }

    private static void neverOpen() {
        Sentence.of(39, "or it is not open and the temperature is not above 0");
        for (int degrees : new int[] {0, -1, -30}) {
            Refusal.of("at " + degrees, Due.ELEMENT, at(degrees), post -> post.hoursUntilOpen(0));
            Refusal.of("on its way at " + degrees, Due.ELEMENT, at(degrees), post -> post.hoursUntilOpen(4));
        }
        Due.is("at 1", 4, at(1).get().hoursUntilOpen(0));
    }

    private static void firstRank() {
        Sentence.of(40, "the rank, counted from 0");
        SledgePost post = Posts.withStations(2);
        for (int i = 0; i < 12; i++) {
            post.post(0, 1, 1, 9 * i, 1);
        }
        for (int rank = 0; rank < 12; rank++) {
            Due.is("rank " + rank, 11 - rank, post.letterByFee(rank));
        }
    }

    private static void tiesOfRanks() {
        Sentence.of(40, "by fee in descending order, then by weight in ascending order, then by id in ascending order.");
        SledgePost post = Posts.withStations(2);
        post.post(0, 1, 9, 98, 1);
        post.post(0, 1, 9, 99, 1);
        post.post(0, 1, 1, 98, 1);
        post.post(0, 1, 1, 0, 1);
        post.post(0, 1, 1, 98, 1);
        post.post(0, 1, 2, 0, 1);
        int[] due = {1, 2, 4, 0, 3, 5};
        for (int rank = 0; rank < due.length; rank++) {
            Due.is("rank " + rank, due[rank], post.letterByFee(rank));
        }
    }

    private static void noRank() {
        Sentence.of(40, "Throws `NoSuchElementException` if there is no such rank");
        Refusal.ofEach("rank", Due.ELEMENT, Scenes::busy, Refusal.outside(5), SledgePost::letterByFee);
        Refusal.ofEach("of twelve", Due.ELEMENT, Scenes::full, Refusal.outside(12), SledgePost::letterByFee);
        Refusal.ofEach("of none", Due.ELEMENT, Scenes::fresh, Refusal.outside(0), SledgePost::letterByFee);
        Due.is("the last", 5, Scenes.busy().letterByFee(4));
        Due.is("the first", 4, Scenes.busy().letterByFee(0));
    }

    /** Letters whose numbers n leave the remainders that lie next to a change of the code's last digits. */
    private static SledgePost withCodes() {
        SledgePost post = Posts.withStations(7);
        int[] destinations = {0, 1, 6, 2, 3, 4, 5};
        for (int destination : destinations) {
            post.post(destination == 0 ? 1 : 0, destination, 1, 1, 1);
        }
        return post;
    }

    private static void leastAndGreatestCodes() {
        Sentence.ofTerms(41, "The code of a letter is 100 * n + 98 - r");
        SledgePost post = withCodes();
        Due.is("n 0, remainder 0", 98, post.codeOf(0));
        Due.is("n 11, remainder 33", 1165, post.codeOf(1));
        Due.is("n 26, remainder 78", 2620, post.codeOf(2));
        Due.is("n 32, remainder 96", 3202, post.codeOf(3));
        Due.is("n 43, remainder 32", 4366, post.codeOf(4));
        Due.is("n 65, remainder 1", 6597, post.codeOf(6));
        for (int letter = 0; letter < 7; letter++) {
            Due.is("by its code", letter, post.letterByCode(post.codeOf(letter)));
        }
    }

    private static void remainderOne() {
        Sentence.ofTerms(42, "A number is a valid code if it leaves the remainder 1 when it is divided by 97.");
        SledgePost post = withCodes();
        for (int letter = 0; letter < 7; letter++) {
            int code = post.codeOf(letter);
            Due.is("remainder of the code of " + letter, 1, code % 97);
            Due.fails("one less", Due.ARGUMENT, () -> post.letterByCode(code - 1));
            Due.fails("one more", Due.ARGUMENT, () -> post.letterByCode(code + 1));
            Due.fails("the next valid one", Due.ELEMENT, () -> post.letterByCode(code + 97));
        }
    }

    private static void negative() {
        Sentence.of(42, "Throws `IllegalArgumentException` if the number is negative");
        // -96, -193 and -2147483581 would leave 1 if remainders were never negative.
        int[] wrong = {-1, -96, -98, -193, -195, -2147483581, Integer.MIN_VALUE};
        Due.is("as if valid", 1, Math.floorMod(-2147483581, 97));
        Refusal.ofEach("number", Due.ARGUMENT, Scenes::busy, wrong, SledgePost::letterByCode);
        Refusal.ofEach("number", Due.ARGUMENT, Scenes::fresh, wrong, SledgePost::letterByCode);
    }

    private static void notValid() {
        Sentence.of(42, "or not a valid code");
        int[] wrong = {0, 2, 96, 97, 99, 100, 194, 196, Integer.MAX_VALUE};
        Refusal.ofEach("number", Due.ARGUMENT, Scenes::busy, wrong, SledgePost::letterByCode);
        Refusal.ofEach("number", Due.ARGUMENT, Scenes::fresh, wrong, SledgePost::letterByCode);
    }

    private static void validWithoutLetter() {
        Sentence.of(42, "Throws `NoSuchElementException` if no letter in the post has this code");
        // The first ones begin like the codes of the letters 0, 3 and 6 and are valid, as those are.
        int[] likeCodes = {1, 3299, 6500};
        Refusal.ofEach("number", Due.ELEMENT, BoundariesOfLetters::withCodes, likeCodes, SledgePost::letterByCode);
        int[] others = {1, 98, 98 + 2 * 97, 2147483583};
        Refusal.ofEach("number", Due.ELEMENT, Scenes::busy, others, SledgePost::letterByCode);
        // 3 to station 3 is delivered, 0 goes to station 1 and not to 2, and there is no 6 yet.
        int[] gone = {3396, 232, 6112};
        Refusal.ofEach("code", Due.ELEMENT, Scenes::busy, fixed(gone), SledgePost::letterByCode);
        Refusal.of("in a new post", Due.ELEMENT, Scenes::fresh, post -> post.letterByCode(98));
        Due.is("of a letter", 0, Scenes.busy().letterByCode(195));
    }

    /** The same numbers with the last two digits that make them valid codes. */
    private static int[] fixed(int[] numbers) {
        int[] codes = new int[numbers.length];
        for (int i = 0; i < codes.length; i++) {
            int start = numbers[i] / 100 * 100;
            codes[i] = start + 98 - start % 97;
        }
        return codes;
    }
}
