/** Ordinary sentences of the promises 18 to 29: what is asked about sledges. */
final class OrdinarySledges {
    private static final String THE_SLEDGE = "- `sledge`: the index of the sledge";

    private OrdinarySledges() {
    }

    static void run() {
        Sentence.each(
                OrdinarySledges::sledgeCount,
                OrdinarySledges::capacity,
                OrdinarySledges::loadOf,
                OrdinarySledges::isTravelling,
                OrdinarySledges::stationOfSledge,
                OrdinarySledges::hoursLeft,
                OrdinarySledges::lettersOn,
                OrdinarySledges::letterOn,
                OrdinarySledges::bestLoadFee,
                OrdinarySledges::bestLoadFeeByTrying,
                OrdinarySledges::roundTrip,
                OrdinarySledges::roundTripByOrders);
    }

    /** The answers for the sledges of the town, in the order of their indices. */
    private static void eachSledge(int promise, Refusal.ActWith question, Object... due) {
        Sentence.of(promise, THE_SLEDGE);
        SledgePost post = Scenes.town();
        for (int sledge = 0; sledge < due.length; sledge++) {
            Due.is("sledge " + sledge, due[sledge], question.on(post, sledge));
        }
    }

    private static void sledgeCount() {
        Sentence.of(18, "Returns the number of sledges.");
        Due.is("three", 3, Scenes.town().sledgeCount());
        SledgePost post = Posts.inARow();
        post.addSledge(2, 9);
        Due.is("one", 1, post.sledgeCount());
    }

    private static void capacity() {
        SledgePost post = Scenes.town();
        Sentence.of(19, "Returns the capacity of a sledge.");
        Due.is("as it was made", 13, post.capacity(1));
        Sentence.of(19, "Returns the capacity.");
        post.loadBest(2);
        Due.is("also of a sledge with letters", 30, post.capacity(2));
        eachSledge(19, SledgePost::capacity, 20, 13, 30);
    }

    private static void loadOf() {
        SledgePost post = Scenes.town();
        Sentence.of(20, "Returns the load of a sledge.");
        Due.is("one letter", 5, post.loadOf(0));
        Sentence.of(20, "Returns the sum of the weights of the letters on it.");
        Due.is("two letters", 3 + 7, post.loadOf(1));
        post.load(0, 4);
        Due.is("one more", 5 + 6, post.loadOf(0));
        eachSledge(20, SledgePost::loadOf, 5, 10, 0);
    }

    private static void isTravelling() {
        SledgePost post = Scenes.town();
        Sentence.of(21, "Returns whether a sledge travels.");
        Due.is("not yet", false, post.isTravelling(2));
        post.send(2, 4);
        Due.is("now", true, post.isTravelling(2));
        post.advance(7);
        Due.is("not any more", false, post.isTravelling(2));
        eachSledge(21, SledgePost::isTravelling, false, true, false);
    }

    private static void stationOfSledge() {
        SledgePost post = Scenes.town();
        Sentence.of(22, "Returns the station in which a sledge stands, or to which it travels.");
        Due.is("stands", 1, post.stationOfSledge(0));
        Due.is("travels", 2, post.stationOfSledge(1));
        Sentence.of(22, "Returns the index of the station.");
        post.send(0, 4);
        Due.is("sent there", 4, post.stationOfSledge(0));
        post.advance(15);
        Due.is("come there", 4, post.stationOfSledge(0));
        eachSledge(22, SledgePost::stationOfSledge, 1, 2, 3);
    }

    private static void hoursLeft() {
        SledgePost post = Scenes.town();
        Sentence.of(23, "Returns the number of hours for which a sledge still travels.");
        Due.is("after four of ten", 6, post.hoursLeft(1));
        post.advance(1);
        Due.is("after one more", 5, post.hoursLeft(1));
        eachSledge(23, SledgePost::hoursLeft, 0, 6, 0);
    }

    private static void lettersOn() {
        SledgePost post = Scenes.town();
        Sentence.of(24, "Returns the number of letters on a sledge.");
        Due.is("two", 2, post.lettersOn(1));
        Sentence.of(24, "Returns the number of letters.");
        post.load(0, 2);
        post.load(0, 4);
        Due.is("three, not what they weigh", 3, post.lettersOn(0));
        eachSledge(24, SledgePost::lettersOn, 1, 2, 0);
    }

    private static void letterOn() {
        SledgePost post = Scenes.town();
        Sentence.of(25, "Returns a letter on a sledge.");
        Due.is("the only one", 1, post.letterOn(0, 0));
        Sentence.of(25, "Returns the id of the letter.");
        Due.is("not its place in the post", 5, post.letterOn(1, 1));
        post.advance(6);
        Due.is("nor after another is delivered", 5, post.letterOn(1, 0));
        eachSledge(25, (town, sledge) -> town.letterOn(sledge, 0), 1, 0);
    }

    private static void bestLoadFee() {
        Sentence.of(26, "Returns the sum of the fees of the best load of a sledge, found letter by letter with a table");
        bestFees(26, SledgePost::bestLoadFee);
    }

    private static void bestLoadFeeByTrying() {
        Sentence.of(27, "Returns the same sum, found by trying all sets of letters.");
        bestFees(27, SledgePost::bestLoadFeeByTrying);
    }

    private static void bestFees(int promise, Refusal.ActWith question) {
        SledgePost post = Scenes.town();
        Due.is("both of 1 fit", 72 + 33, question.on(post, 0));
        Sentence.of(promise, "Returns the sum of the fees.");
        post.post(1, 5, 9, 80, 1);
        // 15 units are free: 9 and 6 weigh as much, and 8 does not fit beside 9.
        Due.is("the dearest two that fit", 80 + 33, question.on(post, 0));
        Due.is("nothing is loaded", 1, post.lettersOn(0));
        Sentence.of(promise, THE_SLEDGE);
        Due.is("another one", 15, question.on(post, 2));
    }

    private static void roundTrip() {
        Sentence.of(28, "Returns the length of the round trip of a sledge, found with sets of stations.");
        trips(28, SledgePost::roundTrip);
    }

    private static void roundTripByOrders() {
        Sentence.of(29, "Returns the same length, found by trying all orders of the destinations.");
        trips(29, SledgePost::roundTripByOrders);
        Sentence.of(29, "Returns the length in hours.");
        int there = Scenes.town().send(0, 3);
        Due.is("as many as there and back", 2 * there, Scenes.town().roundTripByOrders(0));
    }

    private static void trips(int promise, Refusal.ActWith question) {
        SledgePost post = Scenes.town();
        Due.is("to 3 and back", 16, question.on(post, 0));
        post.loadBest(0);
        // 1, 0, 3, 4, 3, 2, 1 or the like: 4 + 9 + 7 + 7 + 2 + 6.
        Due.is("to 0, 3 and 4", 35, question.on(post, 0));
        eachSledge(promise, question, 16, 4, 0);
    }
}
