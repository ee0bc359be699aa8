/** Ordinary sentences of the promises 30 to 42: what is asked about letters. */
final class OrdinaryLetters {
    private static final String THE_LETTER = "- `letter`: the id of the letter";
    private static final String ID = "Returns the id of the letter.";
    private static final String STATION = "Returns the index of the station.";

    private OrdinaryLetters() {
    }

    static void run() {
        Sentence.each(
                OrdinaryLetters::letterCount,
                OrdinaryLetters::letterAt,
                OrdinaryLetters::destinationOf,
                OrdinaryLetters::weightOf,
                OrdinaryLetters::feeOf,
                OrdinaryLetters::iceOf,
                OrdinaryLetters::isOpen,
                OrdinaryLetters::sledgeOf,
                OrdinaryLetters::stationOfLetter,
                OrdinaryLetters::hoursUntilOpen,
                OrdinaryLetters::letterByFee,
                OrdinaryLetters::codeOf,
                OrdinaryLetters::letterByCode);
    }

    /** The town after the letter 0 has been delivered, so that ids are no positions any more. */
    private static SledgePost laterTown() {
        SledgePost post = Scenes.town();
        post.advance(6);
        return post;
    }

    /** The answers for the letters of the town, in the order of their ids. */
    private static void eachLetter(int promise, Refusal.ActWith question, Object... due) {
        Sentence.of(promise, THE_LETTER);
        SledgePost post = Scenes.town();
        for (int letter = 0; letter < due.length; letter++) {
            Due.is("letter " + letter, due[letter], question.on(post, letter));
        }
    }

    private static void letterCount() {
        Sentence.of(30, "Returns the number of letters in the post.");
        SledgePost post = Scenes.town();
        Due.is("six", 6, post.letterCount());
        Due.is("one less", 5, laterTown().letterCount());
        Sentence.of(30, "Returns the number of letters.");
        post.post(5, 0, 1, 1, 1);
        Due.is("one more", 7, post.letterCount());
    }

    private static void letterAt() {
        Sentence.of(31, "Returns a letter in the post.");
        Due.is("waiting or not", 3, Scenes.town().letterAt(3));
        Sentence.of(31, ID);
        Due.is("the last", 5, Scenes.town().letterAt(5));
        Due.is("after the first is delivered", 4, laterTown().letterAt(3));
    }

    private static void destinationOf() {
        Sentence.of(32, "Returns the destination of a letter.");
        Due.is("that waits", 4, Scenes.town().destinationOf(3));
        Sentence.of(32, STATION);
        Due.is("not where it is", 3, laterTown().destinationOf(5));
        eachLetter(32, SledgePost::destinationOf, 2, 3, 0, 4, 4, 3);
    }

    private static void weightOf() {
        Sentence.of(33, "Returns the weight of a letter.");
        Due.is("that waits", 8, Scenes.town().weightOf(2));
        Sentence.of(33, "Returns the weight.");
        Due.is("that has travelled", 7, laterTown().weightOf(5));
        eachLetter(33, SledgePost::weightOf, 3, 5, 8, 2, 6, 7);
    }

    private static void feeOf() {
        Sentence.of(34, "Returns the fee of a letter.");
        Due.is("that waits", 72, Scenes.town().feeOf(2));
        Sentence.of(34, "Returns the fee.");
        Due.is("the whole one, even if it is open", 33, laterTown().feeOf(4));
        eachLetter(34, SledgePost::feeOf, 41, 60, 72, 15, 33, 25);
    }

    private static void iceOf() {
        Sentence.of(35, "Returns the ice of the seal of a letter.");
        Due.is("that waits", 41, Scenes.town().iceOf(2));
        Sentence.of(35, "Returns the number of units.");
        Due.is("after six hours of 3 degrees", 23, laterTown().iceOf(2));
        eachLetter(35, SledgePost::iceOf, 5, 17, 41, 19, 0, 33);
    }

    private static void isOpen() {
        Sentence.of(36, "Returns whether a letter is open.");
        Due.is("not yet", false, Scenes.town().isOpen(1));
        Due.is("later", true, laterTown().isOpen(1));
        eachLetter(36, SledgePost::isOpen, false, false, false, false, true, false);
    }

    private static void sledgeOf() {
        Sentence.of(37, "Returns the sledge on which a letter is.");
        Due.is("that travels", 1, Scenes.town().sledgeOf(5));
        Sentence.of(37, "Returns the index of the sledge.");
        SledgePost post = Scenes.town();
        post.load(2, 3);
        Due.is("that stands", 2, post.sledgeOf(3));
        Sentence.of(37, THE_LETTER);
        Due.is("this one", 1, post.sledgeOf(0));
        Due.is("another one", 0, post.sledgeOf(1));
    }

    private static void stationOfLetter() {
        SledgePost post = Scenes.town();
        Sentence.of(38, "Returns the station in which a letter waits.");
        Due.is("not its destination", 1, post.stationOfLetter(4));
        Sentence.of(38, STATION);
        post.post(5, 0, 1, 1, 1);
        Due.is("the last", 5, post.stationOfLetter(6));
        Sentence.of(38, THE_LETTER);
        Due.is("this one", 1, post.stationOfLetter(2));
        Due.is("another one", 3, post.stationOfLetter(3));
    }

    private static void hoursUntilOpen() {
        eachLetter(39, SledgePost::hoursUntilOpen, 2, 6, 14, 7, 0, 11);
    }

    private static void letterByFee() {
        Sentence.of(40, "when letters are sorted by fee in descending order, then by weight in ascending order, then by");
        SledgePost post = Scenes.town();
        int[] due = {2, 1, 0, 4, 5, 3};
        for (int rank = 0; rank < due.length; rank++) {
            Due.is("rank " + rank, due[rank], post.letterByFee(rank));
        }
        post.post(0, 1, 4, 60, 9);
        post.post(0, 1, 5, 60, 9);
        post.post(0, 1, 6, 60, 9);
        Due.is("the lightest of four", 6, post.letterByFee(1));
        Due.is("of the same weight the first", 1, post.letterByFee(2));
        Due.is("of the same weight the second", 7, post.letterByFee(3));
        Due.is("the heaviest", 8, post.letterByFee(4));
        Sentence.of(40, ID);
        Due.is("not the position", 2, laterTown().letterByFee(0));
    }

    private static void codeOf() {
        Sentence.of(41, "Returns the code of a letter.");
        Due.is("n is 20", 2000 + 98 - 60, Scenes.town().codeOf(2));
        Sentence.of(41, "Returns the code.");
        Due.is("it stays", 5336, laterTown().codeOf(5));
        eachLetter(41, SledgePost::codeOf, 292, 1359, 2038, 3493, 4463, 5336);
    }

    private static void letterByCode() {
        SledgePost post = laterTown();
        Sentence.of(42, "Returns the letter with a code.");
        Due.is("that waits", 3, post.letterByCode(3493));
        Sentence.of(42, ID);
        Due.is("not the position", 5, post.letterByCode(5336));
        Sentence.of(42, "- `code`: the code");
        Due.is("another one", 1, post.letterByCode(1359));
        Due.fails("of a delivered letter", Due.ELEMENT, () -> post.letterByCode(292));
    }
}
