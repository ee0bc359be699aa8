/** Boundary sentences of the promises 18 to 29: what is asked about sledges. */
final class BoundariesOfSledges {
    private static final String NO_SLEDGE = "Throws `IndexOutOfBoundsException` if there is no such sledge";
    private static final String TRAVELS = "Throws `IllegalStateException` if the sledge travels";
    private static final String NO_TRIP =
            "Throws `NoSuchElementException` if a destination is not connected with its station";

    private BoundariesOfSledges() {
    }

    static void run() {
        Sentence.each(
                BoundariesOfSledges::noneAndThree,
                () -> withoutSledge(19, SledgePost::capacity),
                () -> withoutSledge(20, SledgePost::loadOf),
                () -> withoutSledge(21, SledgePost::isTravelling),
                () -> withoutSledge(22, SledgePost::stationOfSledge),
                () -> withoutSledge(23, SledgePost::hoursLeft),
                () -> withoutSledge(24, SledgePost::lettersOn),
                () -> withoutSledge(25, (post, sledge) -> post.letterOn(sledge, 0)),
                () -> withoutSledge(26, SledgePost::bestLoadFee),
                () -> withoutSledge(27, SledgePost::bestLoadFeeByTrying),
                () -> withoutSledge(28, SledgePost::roundTrip),
                () -> withoutSledge(29, SledgePost::roundTripByOrders),
                BoundariesOfSledges::smallestAndLargest,
                BoundariesOfSledges::emptyAndFull,
                BoundariesOfSledges::travelsOrStands,
                BoundariesOfSledges::standsOrTravelsTo,
                BoundariesOfSledges::hoursLeft,
                BoundariesOfSledges::lettersOnIt,
                BoundariesOfSledges::firstPosition,
                BoundariesOfSledges::noPosition,
                BoundariesOfSledges::orderForPositions,
                () -> bestFees(26, SledgePost::bestLoadFee),
                () -> bestFees(27, SledgePost::bestLoadFeeByTrying),
                () -> bestOfTraveller(26, SledgePost::bestLoadFee),
                () -> bestOfTraveller(27, SledgePost::bestLoadFeeByTrying),
                BoundariesOfSledges::noLetters,
                BoundariesOfSledges::noLettersByOrders,
                BoundariesOfSledges::fromWhereItIs,
                () -> notConnected(28, SledgePost::roundTrip),
                () -> notConnected(29, SledgePost::roundTripByOrders),
                () -> longestTrip(28, SledgePost::roundTrip),
                () -> longestTrip(29, SledgePost::roundTripByOrders));
    }

    private static void noneAndThree() {
        Sentence.of(18, "Returns the number of sledges.");
        SledgePost post = Posts.withStations(1);
        Due.is("none", 0, post.sledgeCount());
        for (int i = 1; i <= 3; i++) {
            post.addSledge(0, 9);
            Due.is("so far", i, post.sledgeCount());
        }
        Due.fails("no fourth", Due.STATE, () -> post.addSledge(0, 9));
        Due.is("still", 3, post.sledgeCount());
    }

    private static void withoutSledge(int promise, Refusal.ActWith question) {
        Sentence.of(promise, NO_SLEDGE);
        Refusal.ofEach("sledge", Due.INDEX, Scenes::busy, Refusal.outside(2), question);
        Refusal.of("beyond the third", Due.INDEX, Scenes::full, post -> question.on(post, 3));
        Refusal.of("in a new post", Due.INDEX, Scenes::fresh, post -> question.on(post, 0));
    }

    private static void smallestAndLargest() {
        Sentence.of(19, "Returns the capacity.");
        SledgePost post = Posts.withStations(1);
        post.addSledge(0, 5);
        post.addSledge(0, 30);
        Due.is("the smallest", 5, post.capacity(0));
        Due.is("the largest", 30, post.capacity(1));
    }

    private static void emptyAndFull() {
        Sentence.of(20, "Returns the sum of the weights of the letters on it.");
        SledgePost post = Posts.inARow();
        post.addSledge(0, 30);
        Due.is("empty", 0, post.loadOf(0));
        for (int i = 0; i < 10; i++) {
            post.post(0, 1, 3, 1, 1);
            Due.is("so far", 3 * i + 3, post.load(0, i));
        }
        Due.is("full", 30, post.loadOf(0));
        post.send(0, 1);
        Due.is("on the way", 30, post.loadOf(0));
        post.advance(5);
        Due.is("all delivered", 0, post.loadOf(0));
    }

    private static void travelsOrStands() {
        Sentence.of(21, "Returns true if it travels, false if it stands.");
        SledgePost post = Posts.withStations(2);
        post.setRoad(0, 1, 2);
        post.addSledge(0, 9);
        Due.is("new", false, post.isTravelling(0));
        post.send(0, 1);
        Due.is("sent", true, post.isTravelling(0));
        post.advance(1);
        Due.is("in the last hour", true, post.isTravelling(0));
        post.advance(1);
        Due.is("there", false, post.isTravelling(0));
    }

    private static void standsOrTravelsTo() {
        Sentence.ofTerms(22, "It stands in a station, or it travels to one.");
        SledgePost post = Posts.inARow();
        post.addSledge(0, 9);
        post.addSledge(4, 9);
        Due.is("stands in the first", 0, post.stationOfSledge(0));
        Due.is("stands in the last", 4, post.stationOfSledge(1));
        post.send(0, 3);
        Due.is("travels to another", 3, post.stationOfSledge(0));
        post.advance(11);
        Due.is("in the last hour", 3, post.stationOfSledge(0));
        post.advance(1);
        Due.is("stands there", 3, post.stationOfSledge(0));
    }

    private static void hoursLeft() {
        Sentence.of(23, "Returns the number of hours, 0 if it stands.");
        SledgePost post = Posts.inARow();
        post.addSledge(2, 9);
        Due.is("new", 0, post.hoursLeft(0));
        post.advance(9);
        Due.is("stands", 0, post.hoursLeft(0));
        post.send(0, 3);
        for (int left = 3; left > 0; left--) {
            Due.is("left", left, post.hoursLeft(0));
            post.advance(1);
        }
        Due.is("there", 0, post.hoursLeft(0));
        post.advance(48);
        Due.is("long after", 0, post.hoursLeft(0));
    }

    private static void lettersOnIt() {
        Sentence.of(24, "Returns the number of letters.");
        SledgePost post = Posts.inARow();
        post.addSledge(0, 30);
        post.addSledge(0, 30);
        Due.is("none", 0, post.lettersOn(0));
        for (int i = 0; i < 12; i++) {
            post.post(0, 1, 1, 1, 1);
            post.load(0, i);
            Due.is("so far", i + 1, post.lettersOn(0));
        }
        Due.is("none on the other one", 0, post.lettersOn(1));
        post.send(0, 1);
        post.advance(5);
        Due.is("all delivered", 0, post.lettersOn(0));
    }

    private static void firstPosition() {
        Sentence.of(25, "the position in the order of ids, counted from 0");
        SledgePost post = Posts.inARow();
        post.addSledge(0, 30);
        for (int i = 0; i < 12; i++) {
            post.post(0, 2, 1, 1, 1);
        }
        for (int i = 11; i >= 0; i--) {
            post.load(0, i);
            Due.is("the first", i, post.letterOn(0, 0));
            Due.is("the last", 11, post.letterOn(0, 11 - i));
        }
        Due.is("in the middle", 6, post.letterOn(0, 6));
    }

    private static void noPosition() {
        Sentence.of(25, "Throws `NoSuchElementException` if there is no such position");
        int[] none = Refusal.outside(1);
        Refusal.ofEach("position", Due.ELEMENT, Scenes::busy, none, (post, n) -> post.letterOn(0, n));
        Refusal.ofEach("on a traveller", Due.ELEMENT, Scenes::busy, none, (post, n) -> post.letterOn(1, n));
        Refusal.of("on an empty one", Due.ELEMENT, Scenes::full, post -> post.letterOn(2, 0));
        Due.is("the only one", 0, Scenes.busy().letterOn(0, 0));
        Due.is("the only one on the traveller", 4, Scenes.busy().letterOn(1, 0));
    }

    private static void orderForPositions() {
        Sentence.ofTerms(25, Refusal.IN_ORDER);
        Refusal.of("neither sledge nor position", Due.INDEX, Scenes::busy, post -> post.letterOn(2, 9));
        Refusal.of("negative both", Due.INDEX, Scenes::busy, post -> post.letterOn(-1, -1));
        Refusal.of("in a new post", Due.INDEX, Scenes::fresh, post -> post.letterOn(0, -1));
    }

    private static void bestFees(int promise, Refusal.ActWith question) {
        Sentence.ofTerms(promise, "possibly empty, with which, together with the letters on it, its capacity is not exceeded.");
        SledgePost post = Posts.inARow();
        post.addSledge(0, 10);
        post.addSledge(0, 30);
        Due.is("no letters", 0, question.on(post, 0));
        post.post(0, 1, 9, 0, 1);
        Due.is("no fee", 0, question.on(post, 0));
        post.post(0, 1, 2, 99, 1);
        Due.is("9 and 2 of 10", 99, question.on(post, 0));
        post.load(0, 0);
        Due.is("room for 1", 0, question.on(post, 0));
        post.post(0, 1, 1, 7, 1);
        Due.is("room for just one", 7, question.on(post, 0));
        post.load(0, 2);
        Due.is("full", 0, question.on(post, 0));
        for (int i = 3; i < 11; i++) {
            post.post(0, 1, 4, 99, 1);
        }
        Due.is("2 and 7 times 4 of 30", 8 * 99, question.on(post, 1));
        post.post(1, 0, 1, 99, 1);
        Due.is("not what waits elsewhere", 8 * 99, question.on(post, 1));
    }

    private static void bestOfTraveller(int promise, Refusal.ActWith question) {
        Sentence.of(promise, TRAVELS);
        Refusal.of("5 hours left", Due.STATE, Scenes::busy, post -> question.on(post, 1));
        SledgePost post = Scenes.busy();
        post.post(1, 0, 1, 42, 1);
        post.advance(4);
        Due.fails("1 hour left", Due.STATE, () -> question.on(post, 1));
        post.advance(1);
        Due.is("there", 42, question.on(post, 1));
    }

    private static void bothTrips(String what, Object due, SledgePost post, int sledge) {
        Due.is(what, due, Due.outcome(() -> post.roundTrip(sledge)));
        Due.is(what + ", by orders", due, Due.outcome(() -> post.roundTripByOrders(sledge)));
    }

    private static void noLetters() {
        Sentence.of(28, "Returns the length in hours, 0 if there are no letters on it.");
        SledgePost post = Posts.inARow();
        post.addSledge(4, 30);
        post.addSledge(0, 30);
        Due.is("without roads", 0, post.roundTrip(0));
        Due.is("with roads", 0, post.roundTrip(1));
        post.send(1, 3);
        Due.is("on the way", 0, post.roundTrip(1));
        post.post(4, 0, 1, 1, 1);
        Due.is("a letter that waits", 0, post.roundTrip(0));
        SledgePost last = Posts.withStations(1);
        last.addSledge(0, 5);
        Due.is("the only station", 0, last.roundTrip(0));
    }

    private static void noLettersByOrders() {
        Sentence.of(29, "Returns the same length, found by trying all orders of the destinations.");
        SledgePost post = Posts.inARow();
        post.addSledge(4, 30);
        post.addSledge(0, 30);
        Due.is("without roads", 0, post.roundTripByOrders(0));
        post.post(0, 1, 1, 1, 1);
        Due.is("a letter that waits", 0, post.roundTripByOrders(1));
        post.load(1, 0);
        Due.is("one letter", 10, post.roundTripByOrders(1));
        post.unload(1, 0);
        Due.is("none again", 0, post.roundTripByOrders(1));
    }

    private static void fromWhereItIs() {
        Sentence.ofTerms(28, "begins and ends in the station in which it stands, or to which it travels");
        SledgePost post = Posts.inARow();
        post.addSledge(0, 30);
        post.post(0, 1, 1, 1, 1);
        post.post(0, 2, 1, 1, 1);
        post.load(0, 0);
        post.load(0, 1);
        bothTrips("stands in 0", 18, post, 0);
        post.send(0, 1);
        bothTrips("travels to the one destination", 8, post, 0);
        post.advance(5);
        bothTrips("stands there", 8, post, 0);
        post.send(0, 2);
        bothTrips("travels to the only destination", 0, post, 0);
    }

    private static void notConnected(int promise, Refusal.ActWith question) {
        Sentence.of(promise, NO_TRIP);
        Refusal.of("one of two", Due.ELEMENT, BoundariesOfSledges::cutOff, post -> question.on(post, 0));
        SledgePost post = cutOff();
        post.setRoad(4, 3, 20);
        Due.is("now it is", 64, question.on(post, 0));
        post.setRoad(0, 1, 0);
        Due.fails("none of two", Due.ELEMENT, () -> question.on(post, 0));
        post.send(1, 3);
        Due.is("no letters, and a way", 0, question.on(post, 1));
        post.undo();
        post.undo();
        post.setRoad(3, 4, 0);
        post.unload(0, 1);
        Due.is("without it", 10, question.on(post, 0));
        SledgePost travels = cutOff();
        travels.send(0, 2);
        Due.fails("nor from where it travels to", Due.ELEMENT, () -> question.on(travels, 0));
        SledgePost between = cutOff();
        between.setRoad(1, 4, 1);
        between.setRoad(0, 1, 0);
        Due.fails("destinations connected with each other only", Due.ELEMENT, () -> question.on(between, 0));
    }

    /** Sledge 0 stands in 0 with letters to 1 and to 4, where no road leads; sledge 1 stands in 2. */
    private static SledgePost cutOff() {
        SledgePost post = Posts.inARow();
        post.addSledge(0, 30);
        post.addSledge(2, 30);
        post.post(0, 1, 1, 1, 1);
        post.post(0, 4, 1, 1, 1);
        post.load(0, 0);
        post.load(0, 1);
        return post;
    }

    /** Every station is 20 hours from every other one; the sledge has one letter, or none if it is there already. */
    private static SledgePost oneLetter(int home, int goal) {
        SledgePost post = Posts.withStations(7);
        for (int first = 0; first < 7; first++) {
            for (int second = 0; second < first; second++) {
                post.setRoad(first, second, 20);
            }
        }
        post.addSledge(home, 5);
        if (goal != home) {
            post.post(home, goal, 5, 1, 1);
            post.load(0, 0);
        }
        return post;
    }

    private static void longestTrip(int promise, Refusal.ActWith question) {
        Sentence.ofTerms(promise, "and visits the destinations of all letters on it, in the order that makes the sum");
        SledgePost post = Posts.withStations(7);
        int[] order = {3, 0, 6, 1, 5, 2, 4};
        for (int i = 0; i < 6; i++) {
            post.setRoad(order[i], order[i + 1], 20);
        }
        post.addSledge(3, 30);
        for (int i = 0; i < 12; i++) {
            post.post(3, order[1 + i % 6], 2, 1, 1);
        }
        post.loadBest(0);
        Due.is("to the end and back", 240, question.on(post, 0));
        for (int goal = 0; goal < 7; goal++) {
            Due.is("from 3 to " + goal + " alone", goal == 3 ? 0 : 40, question.on(oneLetter(3, goal), 0));
            Due.is("from 0 to " + goal + " alone", goal == 0 ? 0 : 40, question.on(oneLetter(0, goal), 0));
        }
        post.setRoad(4, 3, 20);
        Due.is("in a ring", 140, question.on(post, 0));
        post.setRoad(6, 4, 1);
        post.setRoad(0, 2, 2);
        // 3 0 2 5 1 6 4 3
        Due.is("by two short roads", 20 + 2 + 20 + 20 + 20 + 1 + 20, question.on(post, 0));
    }
}
