/** Boundary sentences of the promises 6 to 9: loading, unloading and sending. */
final class BoundariesOfWork {
    private static final String NO_SLEDGE = "Throws `IndexOutOfBoundsException` if there is no such sledge";
    private static final String NO_LETTER = "Throws `NoSuchElementException` if there is no such letter in the post";
    // The letter 3 is delivered, the next one would be 6.
    private static final int[] NO_LETTERS = {3, 6, -1, 256, 65536, Integer.MIN_VALUE, Integer.MAX_VALUE};

    private BoundariesOfWork() {
    }

    static void run() {
        Sentence.each(
                BoundariesOfWork::loadWithoutSledge,
                BoundariesOfWork::loadWithoutLetter,
                BoundariesOfWork::loadOnTraveller,
                BoundariesOfWork::loadFromElsewhere,
                BoundariesOfWork::loadTooMuch,
                BoundariesOfWork::loadJustEnough,
                BoundariesOfWork::orderForLoad,
                BoundariesOfWork::unloadWithoutSledge,
                BoundariesOfWork::unloadWithoutLetter,
                BoundariesOfWork::unloadFromTraveller,
                BoundariesOfWork::unloadWhatIsNotOnIt,
                BoundariesOfWork::unloadTheLast,
                BoundariesOfWork::orderForUnload,
                BoundariesOfWork::bestWithoutSledge,
                BoundariesOfWork::bestOnTraveller,
                BoundariesOfWork::bestPossiblyEmpty,
                BoundariesOfWork::bestWithinCapacity,
                BoundariesOfWork::bestAddsTo,
                BoundariesOfWork::greatestFees,
                BoundariesOfWork::smallestWeights,
                BoundariesOfWork::lowestId,
                BoundariesOfWork::sendWithoutSledge,
                BoundariesOfWork::sendWithoutStation,
                BoundariesOfWork::sendTraveller,
                BoundariesOfWork::sendToWhereItStands,
                BoundariesOfWork::sendWithoutWay,
                BoundariesOfWork::sendForTheDistance,
                BoundariesOfWork::orderForSend);
    }

    private static void loadWithoutSledge() {
        Sentence.of(6, NO_SLEDGE);
        Refusal.ofEach("sledge", Due.INDEX, Scenes::busy, Refusal.outside(2), (post, n) -> post.load(n, 1));
        Refusal.of("beyond the third", Due.INDEX, Scenes::full, post -> post.load(3, 1));
        Refusal.of("in a new post", Due.INDEX, Scenes::fresh, post -> post.load(0, 0));
    }

    private static void loadWithoutLetter() {
        Sentence.of(6, NO_LETTER);
        Refusal.ofEach("letter", Due.ELEMENT, Scenes::busy, NO_LETTERS, (post, n) -> post.load(0, n));
        SledgePost post = Scenes.busy();
        post.undo();
        post.post(0, 1, 1, 1, 1);
        post.undo();
        Due.fails("one that is undone", Due.ELEMENT, () -> post.load(0, 6));
    }

    private static void loadOnTraveller() {
        Sentence.of(6, "Throws `IllegalStateException` if the sledge travels");
        // Sledge 1 travels to station 1, where letter 6 waits.
        SledgePost post = Scenes.busy();
        post.post(1, 2, 1, 1, 1);
        Due.fails("5 hours left", Due.STATE, () -> post.load(1, 6));
        post.advance(4);
        Due.fails("1 hour left", Due.STATE, () -> post.load(1, 6));
        post.advance(1);
        Due.is("there", 10, post.load(1, 6));
        Refusal.of("from where it is not", Due.STATE, Scenes::busy, busy -> busy.load(1, 5));
    }

    private static void loadFromElsewhere() {
        Sentence.of(6, "or the letter does not wait in its station");
        Refusal.of("waits elsewhere", Due.STATE, Scenes::busy, post -> post.load(0, 5));
        Refusal.of("on it already", Due.STATE, Scenes::busy, post -> post.load(0, 0));
        Refusal.of("on a sledge that travels", Due.STATE, Scenes::busy, post -> post.load(0, 4));
        Refusal.of("on another sledge here", Due.STATE, Scenes::full, post -> post.load(2, 0));
        SledgePost post = Posts.inARow();
        post.addSledge(0, 10);
        post.addSledge(1, 10);
        post.post(0, 2, 1, 1, 1);
        post.load(0, 0);
        post.send(0, 1);
        post.advance(5);
        Due.fails("on another sledge that came here", Due.STATE, () -> post.load(1, 0));
        post.unload(0, 0);
        Due.is("unloaded here", 1, post.load(1, 0));
    }

    private static void loadTooMuch() {
        Sentence.of(6, "Throws `UnsupportedOperationException` if the capacity would be exceeded");
        Refusal.of("one too much", Due.UNSUPPORTED, Scenes::busy, post -> post.load(0, 2));
        SledgePost post = Posts.withStations(2);
        post.addSledge(0, 5);
        post.post(0, 1, 6, 1, 1);
        post.post(0, 1, 5, 1, 1);
        post.post(0, 1, 1, 1, 1);
        Due.fails("too heavy for an empty one", Due.UNSUPPORTED, () -> post.load(0, 0));
        Due.is("just enough", 5, post.load(0, 1));
        Due.fails("the lightest on a full one", Due.UNSUPPORTED, () -> post.load(0, 2));
        Due.is("its load", 5, post.loadOf(0));
        Due.is("it still waits", 0, post.stationOfLetter(2));
    }

    private static void loadJustEnough() {
        Sentence.ofTerms(6, "which its load, the sum of the weights of the letters on it, never exceeds.");
        SledgePost post = Scenes.busy();
        Due.is("4 and 6 of 10", 10, post.load(0, 1));
        Due.is("full", post.capacity(0), post.loadOf(0));
        Due.fails("no more", Due.UNSUPPORTED, () -> post.load(0, 2));
        Due.is("still full", 10, post.loadOf(0));
        Due.is("less", 4, post.unload(0, 1));
        Due.is("full again", 10, post.load(0, 1));
    }

    private static void orderForLoad() {
        Sentence.ofTerms(6, Refusal.IN_ORDER);
        Refusal.of("neither sledge nor letter", Due.INDEX, Scenes::busy, post -> post.load(2, 6));
        Refusal.of("no sledge, and a heavy letter", Due.INDEX, Scenes::busy, post -> post.load(-1, 2));
        Refusal.of("no letter, and it travels", Due.ELEMENT, Scenes::busy, post -> post.load(1, 6));
        Refusal.of("travels, and too heavy", Due.STATE, () -> travellerWithRoomForOne(), post -> post.load(0, 1));
        Refusal.of("elsewhere, and too heavy", Due.STATE, () -> travellerWithRoomForOne(), post -> post.load(1, 2));
    }

    private static SledgePost travellerWithRoomForOne() {
        SledgePost post = Posts.inARow();
        post.addSledge(0, 5);
        post.addSledge(0, 5);
        post.post(0, 2, 4, 1, 1);
        post.post(1, 0, 2, 1, 1);
        post.post(2, 0, 6, 1, 1);
        post.load(0, 0);
        post.send(0, 1);
        return post;
    }

    private static void unloadWithoutSledge() {
        Sentence.of(7, NO_SLEDGE);
        Refusal.ofEach("sledge", Due.INDEX, Scenes::busy, Refusal.outside(2), (post, n) -> post.unload(n, 0));
        Refusal.of("beyond the third", Due.INDEX, Scenes::full, post -> post.unload(3, 0));
        Refusal.of("in a new post", Due.INDEX, Scenes::fresh, post -> post.unload(0, 0));
    }

    private static void unloadWithoutLetter() {
        Sentence.of(7, NO_LETTER);
        Refusal.ofEach("letter", Due.ELEMENT, Scenes::busy, NO_LETTERS, (post, n) -> post.unload(0, n));
    }

    private static void unloadFromTraveller() {
        Sentence.of(7, "Throws `IllegalStateException` if the sledge travels");
        Refusal.of("5 hours left", Due.STATE, Scenes::busy, post -> post.unload(1, 4));
        SledgePost post = Scenes.busy();
        post.advance(4);
        Due.fails("1 hour left", Due.STATE, () -> post.unload(1, 4));
        post.advance(1);
        Due.is("there", 0, post.unload(1, 4));
        Due.is("where it is now", 1, post.stationOfLetter(4));
    }

    private static void unloadWhatIsNotOnIt() {
        Sentence.of(7, "or the letter is not on it");
        Refusal.of("waits here", Due.STATE, Scenes::busy, post -> post.unload(0, 1));
        Refusal.of("waits elsewhere", Due.STATE, Scenes::busy, post -> post.unload(0, 5));
        Refusal.of("on one that travels", Due.STATE, Scenes::busy, post -> post.unload(0, 4));
        Refusal.of("on another one here", Due.STATE, Scenes::full, post -> post.unload(2, 0));
        SledgePost post = Scenes.busy();
        Due.is("once", 0, post.unload(0, 0));
        Due.fails("twice", Due.STATE, () -> post.unload(0, 0));
    }

    private static void unloadTheLast() {
        Sentence.of(7, "it waits in the station of the sledge then.");
        SledgePost post = Scenes.full();
        int waiting = post.waitingIn(0);
        Due.is("the only one", 0, post.unload(0, 0));
        Due.is("none on it", 0, post.lettersOn(0));
        Due.is("waits here", 0, post.stationOfLetter(0));
        Due.is("one more waits", waiting + 1, post.waitingIn(0));
        Due.is("and can be loaded", 4, post.load(2, 0));
        post.advance(5);
        Due.is("the only one, elsewhere", 0, post.unload(1, 4));
        Due.is("waits there, and not where it was loaded", 1, post.stationOfLetter(4));
    }

    private static void orderForUnload() {
        Sentence.ofTerms(7, Refusal.IN_ORDER);
        Refusal.of("neither sledge nor letter", Due.INDEX, Scenes::busy, post -> post.unload(2, 6));
        Refusal.of("no sledge, and the letter waits", Due.INDEX, Scenes::busy, post -> post.unload(-1, 1));
        Refusal.of("no letter, and it travels", Due.ELEMENT, Scenes::busy, post -> post.unload(1, 3));
    }

    private static void bestWithoutSledge() {
        Sentence.of(8, NO_SLEDGE);
        Refusal.ofEach("sledge", Due.INDEX, Scenes::busy, Refusal.outside(2), SledgePost::loadBest);
        Refusal.of("beyond the third", Due.INDEX, Scenes::full, post -> post.loadBest(3));
        Refusal.of("in a new post", Due.INDEX, Scenes::fresh, post -> post.loadBest(0));
    }

    private static void bestOnTraveller() {
        Sentence.of(8, "Throws `IllegalStateException` if the sledge travels");
        Refusal.of("5 hours left", Due.STATE, Scenes::busy, post -> post.loadBest(1));
        SledgePost post = Scenes.busy();
        post.post(1, 2, 1, 1, 1);
        post.advance(4);
        Due.fails("1 hour left", Due.STATE, () -> post.loadBest(1));
        post.advance(1);
        Due.is("there", 1, post.loadBest(1));
    }

    /** A post with one sledge; each entry is the weight and the fee of a letter that waits with it. */
    private static SledgePost waiting(int capacity, int[]... letters) {
        SledgePost post = Posts.inARow();
        post.addSledge(0, capacity);
        for (int[] letter : letters) {
            post.post(0, 1, letter[0], letter[1], 9);
        }
        return post;
    }

    private static int[] letter(int weight, int fee) {
        return new int[] {weight, fee};
    }

    private static void loads(String what, String due, SledgePost post) {
        int before = post.lettersOn(0);
        int loaded = post.loadBest(0);
        Due.is(what, due, Posts.sledge(post, 0));
        Due.is(what + ", how many", post.lettersOn(0) - before, loaded);
    }

    private static void bestPossiblyEmpty() {
        Sentence.ofTerms(8, "is a set of the letters that wait there, possibly empty");
        loads("no letters at all", "0:0/5@0", waiting(5));
        loads("all too heavy", "0:0/5@0", waiting(5, letter(6, 99), letter(9, 99)));
        loads("no fees", "0:0/30@0", waiting(30, letter(1, 0), letter(9, 0)));
        SledgePost elsewhere = waiting(30);
        elsewhere.post(1, 0, 1, 99, 1);
        loads("they wait elsewhere", "0:0/30@0", elsewhere);
        SledgePost taken = waiting(30, letter(1, 99));
        taken.addSledge(0, 30);
        taken.load(1, 0);
        loads("on another sledge", "0:0/30@0", taken);
        Due.is("an empty one is a change", 7, taken.undo());
    }

    private static void bestWithinCapacity() {
        Sentence.ofTerms(8, "with which, together with the letters on it, its capacity is not exceeded.");
        loads("exactly", "0:5/5@0#0", waiting(5, letter(5, 1)));
        loads("one too much", "0:2/5@0#0", waiting(5, letter(2, 5), letter(4, 4)));
        loads("30 of 30", "0:30/30@0#0#1#2#3", waiting(30, letter(9, 9), letter(9, 9), letter(9, 9), letter(3, 9)));
        SledgePost full = waiting(5, letter(5, 1), letter(1, 99));
        full.load(0, 0);
        loads("full before", "0:5/5@0#0", full);
        SledgePost nearly = waiting(10, letter(9, 1), letter(1, 5), letter(2, 99), letter(1, 6));
        nearly.load(0, 0);
        loads("room for 1", "0:10/10@0#0#3", nearly);
        SledgePost all = waiting(30);
        for (int i = 0; i < 12; i++) {
            all.post(0, 1, i < 9 ? 2 : 4, 1, 1);
        }
        loads("all twelve", "0:30/30@0#0#1#2#3#4#5#6#7#8#9#10#11", all);
    }

    private static void bestAddsTo() {
        Sentence.of(8, "in addition to the letters on it.");
        SledgePost post = waiting(10, letter(5, 0), letter(5, 30), letter(5, 20));
        post.load(0, 0);
        loads("what was on it stays, without a fee", "0:10/10@0#0#1", post);
        loads("nothing more", "0:10/10@0#0#1", post);
        SledgePost busy = Scenes.busy();
        Due.is("of 1 and 2 only 1 fits", 1, busy.loadBest(0));
        Due.is("with 0, which was on it", "0:10/10@0#0#1", Posts.sledge(busy, 0));
    }

    private static void greatestFees() {
        Sentence.ofTerms(8, "Of all such sets it is the one with the greatest sum of fees");
        loads("one against two", "0:9/10@0#0", waiting(10, letter(9, 61), letter(5, 30), letter(5, 30)));
        loads("two against one", "0:10/10@0#1#2", waiting(10, letter(9, 59), letter(5, 30), letter(5, 30)));
        loads("one coin is worth more weight", "0:9/9@0#1", waiting(9, letter(1, 98), letter(9, 99)));
        loads("and a higher id", "0:1/5@0#2", waiting(5, letter(5, 97), letter(5, 98), letter(1, 99)));
        loads("not the dearest by weight first", "0:10/10@0#1#2", waiting(10, letter(6, 60), letter(5, 45), letter(5, 45)));
    }

    private static void smallestWeights() {
        Sentence.ofTerms(8, "of several, the one with the smallest sum of weights");
        loads("the lighter one", "0:4/5@0#1", waiting(5, letter(5, 20), letter(4, 20)));
        loads("nothing that brings nothing", "0:1/30@0#1", waiting(30, letter(1, 0), letter(1, 1), letter(9, 0)));
        loads("two light ones for one heavy", "0:8/9@0#1#2", waiting(9, letter(9, 50), letter(4, 20), letter(4, 30)));
        loads("one light for two", "0:5/8@0#2", waiting(8, letter(4, 25), letter(4, 25), letter(5, 50)));
        loads("weight before id", "0:2/5@0#1#2", waiting(5, letter(5, 8), letter(1, 4), letter(1, 4)));
    }

    private static void lowestId() {
        Sentence.ofTerms(8, "the one that contains the letter with the lowest id of those that only one of both sets contains.");
        loads("the first of equals", "0:5/5@0#0", waiting(5, letter(5, 9), letter(5, 9), letter(5, 9)));
        loads("one letter, as it is the first", "0:4/5@0#0", waiting(5, letter(4, 20), letter(2, 10), letter(2, 10)));
        loads("two letters, as one is the first", "0:4/5@0#0#2", waiting(5, letter(2, 10), letter(4, 20), letter(2, 10)));
        loads("the first decides, not the second", "0:10/10@0#0#3",
                waiting(10, letter(3, 10), letter(5, 20), letter(5, 20), letter(7, 30)));
        loads("what both contain does not count", "0:11/11@0#0#1#4",
                waiting(11, letter(1, 90), letter(3, 10), letter(5, 20), letter(5, 20), letter(7, 30)));
        SledgePost many = waiting(6);
        for (int i = 0; i < 12; i++) {
            many.post(0, 1, i == 0 || i == 11 ? 1 : 3, i == 0 || i == 11 ? 0 : 10, 9);
        }
        loads("the first two of ten", "0:6/6@0#1#2", many);
        SledgePost later = waiting(9, letter(1, 1), letter(1, 1));
        later.load(0, 0);
        later.send(0, 1);
        later.advance(5);
        later.send(0, 0);
        later.advance(5);
        later.post(0, 2, 8, 7, 1);
        later.post(0, 2, 8, 7, 1);
        loads("after a delivery", "0:9/9@0#1#2", later);
    }

    private static void sendWithoutSledge() {
        Sentence.of(9, "Throws `IndexOutOfBoundsException` if there is no such sledge");
        Refusal.ofEach("sledge", Due.INDEX, Scenes::busy, Refusal.outside(2), (post, n) -> post.send(n, 1));
        Refusal.of("beyond the third", Due.INDEX, Scenes::full, post -> post.send(3, 1));
        Refusal.of("in a new post", Due.INDEX, Scenes::fresh, post -> post.send(0, 0));
    }

    private static void sendWithoutStation() {
        Sentence.of(9, "or no such station");
        Refusal.ofEach("station", Due.INDEX, Scenes::busy, Refusal.outside(5), (post, n) -> post.send(0, n));
        Refusal.of("beyond the seventh", Due.INDEX, Scenes::full, post -> post.send(0, 7));
    }

    private static void sendTraveller() {
        Sentence.of(9, "Throws `IllegalStateException` if the sledge travels");
        Refusal.ofEach("to", Due.STATE, Scenes::busy, new int[] {0, 1, 2, 3}, (post, n) -> post.send(1, n));
        SledgePost post = Scenes.busy();
        post.advance(4);
        Due.fails("1 hour left", Due.STATE, () -> post.send(1, 0));
        post.advance(1);
        Due.is("there", 5, post.send(1, 0));
    }

    private static void sendToWhereItStands() {
        Sentence.of(9, "or stands in this station");
        Refusal.of("station 0", Due.STATE, Scenes::busy, post -> post.send(0, 0));
        SledgePost post = Posts.withStations(7);
        post.addSledge(6, 9);
        Due.fails("the last station, without roads", Due.STATE, () -> post.send(0, 6));
        SledgePost arrived = Scenes.busy();
        arrived.advance(5);
        Due.fails("where it came", Due.STATE, () -> arrived.send(1, 1));
    }

    private static void sendWithoutWay() {
        Sentence.of(9, "Throws `UnsupportedOperationException` if both stations are not connected");
        Refusal.of("to a station without roads", Due.UNSUPPORTED, Scenes::busy, post -> post.send(0, 4));
        SledgePost post = Posts.inARow();
        post.addSledge(0, 9);
        post.addSledge(4, 9);
        Due.fails("from a station without roads", Due.UNSUPPORTED, () -> post.send(1, 0));
        post.setRoad(1, 2, 0);
        Due.fails("no way any more", Due.UNSUPPORTED, () -> post.send(0, 2));
        post.setRoad(3, 4, 20);
        Due.fails("a road on the other side only", Due.UNSUPPORTED, () -> post.send(0, 4));
        post.setRoad(4, 0, 1);
        Due.is("round about", 24, post.send(0, 2));
    }

    private static void sendForTheDistance() {
        Sentence.ofTerms(9, "it travels for as many hours as the distance was when it was sent, and the post pays as many coins");
        SledgePost post = Posts.withStations(7);
        for (int i = 0; i < 6; i++) {
            post.setRoad(i, i + 1, 20);
        }
        post.addSledge(0, 9);
        post.addSledge(0, 9);
        Due.is("the longest way", 120, post.send(0, 6));
        Due.is("its toll", -120, post.coins());
        Due.is("its hours", 120, post.hoursLeft(0));
        post.setRoad(0, 6, 1);
        Due.is("not shorter by a road that comes later", 120, post.hoursLeft(0));
        Due.is("the shortest way", 1, post.send(1, 6));
        post.setRoad(0, 6, 0);
        post.setRoad(5, 6, 0);
        post.advance(1);
        Due.is("there, though the road is gone", false, post.isTravelling(1));
        post.advance(48);
        post.advance(48);
        post.advance(22);
        Due.is("an hour left", 1, post.hoursLeft(0));
        post.advance(1);
        Due.is("there, though no way is left", "0:0/9@6", Posts.sledge(post, 0));
        Due.is("no further toll", -121, post.coins());
    }

    private static void orderForSend() {
        Sentence.ofTerms(9, Refusal.IN_ORDER);
        Refusal.of("neither sledge nor station", Due.INDEX, Scenes::busy, post -> post.send(2, 5));
        Refusal.of("no station, and it travels", Due.INDEX, Scenes::busy, post -> post.send(1, 5));
        Refusal.of("it travels, and there is no way", Due.STATE, Scenes::busy, post -> post.send(1, 4));
    }
}
