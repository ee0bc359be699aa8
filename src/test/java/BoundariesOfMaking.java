/** Boundary sentences of the promises 1 to 5: a new object, stations, roads, sledges and letters. */
final class BoundariesOfMaking {
    private BoundariesOfMaking() {
    }

    static void run() {
        Sentence.each(
                BoundariesOfMaking::newObject,
                BoundariesOfMaking::lastCall,
                BoundariesOfMaking::stationWithoutRoads,
                BoundariesOfMaking::seventhStation,
                BoundariesOfMaking::indicesOfStations,
                BoundariesOfMaking::lengthOfRoad,
                BoundariesOfMaking::noRoadAnyMore,
                BoundariesOfMaking::previousLength,
                BoundariesOfMaking::roadWithoutStation,
                BoundariesOfMaking::roadToItself,
                BoundariesOfMaking::roadTooShortOrTooLong,
                BoundariesOfMaking::orderForRoads,
                BoundariesOfMaking::emptySledge,
                BoundariesOfMaking::numbersOfSledges,
                BoundariesOfMaking::capacityOfSledge,
                BoundariesOfMaking::sledgeWithoutStation,
                BoundariesOfMaking::capacityTooSmallOrTooLarge,
                BoundariesOfMaking::fourthSledge,
                BoundariesOfMaking::orderForSledges,
                BoundariesOfMaking::limitsOfLetter,
                BoundariesOfMaking::iceAtFirst,
                BoundariesOfMaking::idsOfLetters,
                BoundariesOfMaking::letterWithoutStation,
                BoundariesOfMaking::letterToWhereItIs,
                BoundariesOfMaking::weightOfLetter,
                BoundariesOfMaking::feeOfLetter,
                BoundariesOfMaking::strengthOfLetter,
                BoundariesOfMaking::thirteenthLetter,
                BoundariesOfMaking::twelveAtATime,
                BoundariesOfMaking::orderForLetters);
    }

    private static void newObject() {
        Sentence.of(1, "Creates a post without stations, sledges and letters at time 0.");
        SledgePost post = new SledgePost();
        Due.is("no stations", 0, post.stationCount());
        Due.is("no sledges", 0, post.sledgeCount());
        Due.is("no letters", 0, post.letterCount());
        Due.is("time", 0, post.time());
        Due.fails("no station 0", Due.INDEX, () -> post.waitingIn(0));
        Due.fails("no sledge 0", Due.INDEX, () -> post.capacity(0));
        Due.fails("no letter 0", Due.ELEMENT, () -> post.weightOf(0));
    }

    /** Posts and delivers to the last of the calls, which makes the ids as large as they can well get. */
    private static void lastCall() {
        Sentence.ofTerms(1, "An object is used for at most 512 calls after it has been made");
        SledgePost post = Posts.withStations(2);
        post.setRoad(0, 1, 1);
        post.addSledge(0, 30);
        int calls = 4;
        for (int round = 0; round < 33; round++) {
            int here = round % 2;
            for (int i = 0; i < 12; i++) {
                Due.is("id", 12 * round + i, post.post(here, 1 - here, 1 + i % 2, 1, 1));
            }
            Due.is("loaded in round " + round, 12, post.loadBest(0));
            Due.is("sent in round " + round, 1, post.send(0, 1 - here));
            Due.is("delivered in round " + round, 12, post.advance(1));
            calls += 15;
        }
        Due.is("a letter after 499 calls", 396, post.post(1, 0, 1, 1, 1));
        Due.is("its code", 100 * 3960 + 98 - 396000 % 97, post.codeOf(396));
        Due.is("by its code", 396, post.letterByCode(396000 + 98 - 396000 % 97));
        Due.is("coins", 33 * 12 - 33, post.coins());
        Due.is("delivered", 396, post.deliveredTotal());
        for (calls += 5; calls < 511; calls++) {
            Due.is("time", 33, post.time());
        }
        Due.is("the 512th call", 7, post.undo());
    }

    private static void stationWithoutRoads() {
        Sentence.of(2, "Adds a station without roads.");
        SledgePost post = Posts.withStations(7);
        for (int other = 0; other < 7; other++) {
            Due.is("no road of the last one", 0, post.road(6, other));
            Due.is("no way of the last one", other == 6, post.areConnected(other, 6));
        }
        SledgePost again = Posts.withStations(2);
        again.setRoad(0, 1, 9);
        again.undo();
        again.undo();
        Due.is("added again", 1, again.addStation());
        Due.is("without the road that was undone", 0, again.road(0, 1));
        SledgePost restored = new SledgePost();
        restored.save();
        Posts.run(restored, "station;station;road 01 9");
        restored.restore();
        Posts.run(restored, "station;station");
        Due.is("without the road from before the snapshot came back", 0, restored.road(0, 1));
        SledgePost failed = new SledgePost();
        Posts.run(failed, "station;station;road 01 9;best 0");
        Posts.run(failed, "station;station");
        Due.is("without the road of a script that failed", 0, failed.road(1, 0));
    }

    private static void seventhStation() {
        Sentence.of(2, "Throws `IllegalStateException` if there are 7 stations");
        SledgePost post = Posts.withStations(6);
        Due.is("the seventh", 6, post.addStation());
        Due.fails("the eighth", Due.STATE, post::addStation);
        Due.fails("the eighth again", Due.STATE, post::addStation);
        post.undo();
        Due.is("the seventh once more", 6, post.addStation());
        Refusal.of("in a full post", Due.STATE, Scenes::full, SledgePost::addStation);
    }

    private static void indicesOfStations() {
        Sentence.ofTerms(2, "At most 7 stations exist; they have the indices 0 to n - 1 in the order");
        SledgePost post = new SledgePost();
        for (int i = 0; i < 7; i++) {
            int next = i;
            Due.fails("not yet " + i, Due.INDEX, () -> post.waitingIn(next));
            Due.is("the index", i, post.addStation());
            Due.is("now " + i, 0, post.waitingIn(i));
        }
        Due.fails("no eighth", Due.STATE, post::addStation);
        Due.is("seven", 7, post.stationCount());
        Due.fails("no index 7", Due.INDEX, () -> post.waitingIn(7));
    }

    private static void lengthOfRoad() {
        Sentence.ofTerms(3, "Between two different stations there can be a road, whose length is from 1 to 20 hours.");
        SledgePost post = Posts.withStations(7);
        Due.is("set", 0, post.setRoad(0, 1, 1));
        Due.is("the shortest", 1, post.road(0, 1));
        Due.is("set", 0, post.setRoad(6, 5, 20));
        Due.is("the longest", 20, post.road(5, 6));
        Due.is("first and last", 0, post.setRoad(0, 6, 19));
        Due.is("a way over all of them", 40, post.distance(1, 5));
    }

    private static void noRoadAnyMore() {
        Sentence.of(3, "the length, or 0 if there is no road any more");
        SledgePost post = Posts.withStations(3);
        post.setRoad(0, 1, 20);
        post.setRoad(1, 2, 1);
        Due.is("taken away", 20, post.setRoad(1, 0, 0));
        Due.is("no road", 0, post.road(0, 1));
        Due.is("nor back", 0, post.road(1, 0));
        Due.is("no way", false, post.areConnected(0, 1));
        Due.is("the other one stays", 1, post.road(1, 2));
        Due.is("taken away where none is", 0, post.setRoad(0, 1, 0));
        Due.is("still none", 0, post.road(0, 1));
    }

    private static void previousLength() {
        Sentence.of(3, "Returns the previous length, 0 if there was no road.");
        SledgePost post = Posts.withStations(7);
        Due.is("none", 0, post.setRoad(5, 6, 20));
        Due.is("the longest", 20, post.setRoad(5, 6, 1));
        Due.is("the shortest", 1, post.setRoad(6, 5, 1));
        Due.is("the same", 1, post.setRoad(5, 6, 0));
        Due.is("none again", 0, post.setRoad(5, 6, 0));
        Due.is("and once more", 0, post.setRoad(6, 5, 7));
    }

    private static void roadWithoutStation() {
        Sentence.of(3, "Throws `IndexOutOfBoundsException` if there is no such station, for either argument");
        int[] none = Refusal.outside(5);
        Refusal.ofEach("from", Due.INDEX, Scenes::busy, none, (post, station) -> post.setRoad(station, 0, 5));
        Refusal.ofEach("to", Due.INDEX, Scenes::busy, none, (post, station) -> post.setRoad(0, station, 5));
        Refusal.ofEach("from the last to", Due.INDEX, Scenes::busy, none, (post, station) -> post.setRoad(4, station, 0));
        Refusal.of("beyond the seventh", Due.INDEX, Scenes::full, post -> post.setRoad(0, 7, 5));
        Refusal.of("to the seventh and on", Due.INDEX, Scenes::full, post -> post.setRoad(7, 6, 5));
        Refusal.of("in a new post", Due.INDEX, Scenes::fresh, post -> post.setRoad(0, 1, 5));
        Due.is("the last ones", 3, Scenes.busy().setRoad(3, 2, 20));
    }

    private static void roadToItself() {
        Sentence.of(3, "both stations are the same");
        Refusal.ofEach("to itself", Due.ARGUMENT, Scenes::full, new int[] {0, 1, 6}, (post, at) -> post.setRoad(at, at, 5));
        Refusal.of("none to itself", Due.ARGUMENT, Scenes::busy, post -> post.setRoad(0, 0, 0));
        Due.is("next to it", 0, Scenes.full().setRoad(6, 5, 5));
    }

    private static void roadTooShortOrTooLong() {
        Sentence.of(3, "the length is not between 0 and 20");
        Refusal.ofEach("length", Due.ARGUMENT, Scenes::busy, Refusal.beyond(0, 20), (post, n) -> post.setRoad(0, 1, n));
        for (int length : new int[] {0, 1, 19, 20}) {
            SledgePost post = Scenes.busy();
            Due.is("before " + length, 5, post.setRoad(0, 1, length));
            Due.is("set to " + length, length, post.road(0, 1));
        }
    }

    private static void orderForRoads() {
        Sentence.ofTerms(3, Refusal.IN_ORDER);
        Refusal.of("no station, and the same", Due.INDEX, Scenes::busy, post -> post.setRoad(5, 5, 5));
        Refusal.of("negative, and the same", Due.INDEX, Scenes::busy, post -> post.setRoad(-1, -1, 5));
        Refusal.of("no station, and too long", Due.INDEX, Scenes::busy, post -> post.setRoad(0, 5, 21));
        Refusal.of("no station, and too short", Due.INDEX, Scenes::busy, post -> post.setRoad(-1, 0, -1));
        Refusal.of("the same, and too long", Due.ARGUMENT, Scenes::busy, post -> post.setRoad(4, 4, 21));
    }

    private static void emptySledge() {
        Sentence.of(4, "Adds an empty sledge that stands in a station.");
        SledgePost post = Scenes.busy();
        Due.is("the third", 2, post.addSledge(0, 30));
        Due.is("no letters", 0, post.lettersOn(2));
        Due.is("no load", 0, post.loadOf(2));
        Due.is("does not travel", false, post.isTravelling(2));
        Due.is("stands", 0, post.stationOfSledge(2));
        SledgePost again = Posts.inARow();
        again.addSledge(0, 30);
        again.post(0, 1, 3, 1, 1);
        again.load(0, 0);
        again.send(0, 3);
        for (int i = 0; i < 4; i++) {
            again.undo();
        }
        again.addSledge(4, 5);
        Due.is("where one was undone", "0:0/5@4", Posts.sledge(again, 0));
        SledgePost failed = Posts.inARow();
        Posts.run(failed, "sledge 0 30;post 01 3 1 1;load 0 0;go 03;best 0");
        failed.addSledge(4, 5);
        Due.is("where one came and went in a script that failed", "0:0/5@4", Posts.sledge(failed, 0));
        SledgePost restored = Posts.inARow();
        restored.save();
        restored.addSledge(0, 30);
        restored.send(0, 3);
        restored.restore();
        restored.addSledge(4, 5);
        Due.is("where one was before the snapshot came back", "0:0/5@4", Posts.sledge(restored, 0));
    }

    private static void numbersOfSledges() {
        Sentence.ofTerms(4, "At most 3 sledges exist, numbered in the order in which they were added.");
        SledgePost post = Posts.withStations(3);
        for (int i = 0; i < 3; i++) {
            int next = i;
            Due.fails("not yet " + i, Due.INDEX, () -> post.capacity(next));
            Due.is("the index", i, post.addSledge(2 - i, 10 + i));
            Due.is("its capacity", 10 + i, post.capacity(i));
            Due.is("its station", 2 - i, post.stationOfSledge(i));
        }
        Due.fails("no fourth", Due.STATE, () -> post.addSledge(0, 10));
        Due.is("three", 3, post.sledgeCount());
        Due.fails("no index 3", Due.INDEX, () -> post.capacity(3));
    }

    private static void capacityOfSledge() {
        Sentence.ofTerms(4, "A sledge has a capacity from 5 to 30, which its load");
        SledgePost post = Posts.withStations(2);
        post.addSledge(0, 5);
        post.addSledge(0, 30);
        for (int i = 0; i < 7; i++) {
            post.post(0, 1, 5, 1, 1);
        }
        post.post(0, 1, 1, 1, 1);
        Due.is("all of 5", 5, post.load(0, 0));
        Due.fails("6 of 5", Due.UNSUPPORTED, () -> post.load(0, 7));
        for (int i = 1; i < 7; i++) {
            Due.is("some of 30", 5 * i, post.load(1, i));
        }
        Due.fails("31 of 30", Due.UNSUPPORTED, () -> post.load(1, 7));
        Due.is("nor by the best load", 0, post.loadBest(0) + post.loadBest(1));
        Due.is("5 stay", 5, post.loadOf(0));
        Due.is("30 stay", 30, post.loadOf(1));
    }

    private static void sledgeWithoutStation() {
        Sentence.of(4, "Throws `IndexOutOfBoundsException` if there is no such station");
        Refusal.ofEach("station", Due.INDEX, Scenes::busy, Refusal.outside(5), (post, n) -> post.addSledge(n, 10));
        Refusal.of("in a new post", Due.INDEX, Scenes::fresh, post -> post.addSledge(0, 10));
        Due.is("in the last station", 2, Scenes.busy().addSledge(4, 10));
    }

    private static void capacityTooSmallOrTooLarge() {
        Sentence.of(4, "Throws `IllegalArgumentException` if the capacity is not between 5 and 30");
        Refusal.ofEach("capacity", Due.ARGUMENT, Scenes::busy, Refusal.beyond(5, 30), (post, n) -> post.addSledge(0, n));
        Refusal.of("capacity 0", Due.ARGUMENT, Scenes::busy, post -> post.addSledge(0, 0));
        for (int capacity : new int[] {5, 6, 29, 30}) {
            SledgePost post = Scenes.busy();
            Due.is("added", 2, post.addSledge(0, capacity));
            Due.is("its capacity", capacity, post.capacity(2));
        }
    }

    private static void fourthSledge() {
        Sentence.of(4, "Throws `IllegalStateException` if there are 3 sledges");
        SledgePost post = Scenes.busy();
        Due.is("the third", 2, post.addSledge(0, 10));
        Due.fails("the fourth", Due.STATE, () -> post.addSledge(0, 10));
        Due.fails("the fourth again", Due.STATE, () -> post.addSledge(1, 30));
        post.undo();
        Due.is("the third once more", 2, post.addSledge(1, 30));
        Refusal.of("in a full post", Due.STATE, Scenes::full, full -> full.addSledge(0, 10));
    }

    private static void orderForSledges() {
        Sentence.ofTerms(4, Refusal.IN_ORDER);
        Refusal.of("no station, and too small", Due.INDEX, Scenes::busy, post -> post.addSledge(5, 4));
        Refusal.of("no station, and too many", Due.INDEX, Scenes::full, post -> post.addSledge(7, 10));
        Refusal.of("too large, and too many", Due.ARGUMENT, Scenes::full, post -> post.addSledge(0, 31));
        Refusal.of("all three", Due.INDEX, Scenes::full, post -> post.addSledge(-1, 31));
    }

    private static void limitsOfLetter() {
        Sentence.ofTerms(5, "a weight from 1 to 9, a fee from 0 to 99 coins, and a seal with a strength from 1 to 99.");
        SledgePost post = Posts.withStations(7);
        post.post(0, 6, 1, 0, 1);
        post.post(6, 0, 9, 99, 99);
        Due.is("the least of all", "0>6 1g0c1/1", Posts.letter(post, 0));
        Due.is("the most of all", "1>0 9g99c99/99", Posts.letter(post, 1));
        Due.is("from the first", 0, post.stationOfLetter(0));
        Due.is("from the last", 6, post.stationOfLetter(1));
    }

    private static void iceAtFirst() {
        Sentence.ofTerms(5, "The ice of its seal is as much as the strength initially.");
        SledgePost post = Posts.withStations(2);
        post.setTemperature(10);
        for (int strength : new int[] {1, 2, 50, 98, 99}) {
            int id = post.post(0, 1, 1, 1, strength);
            Due.is("ice", strength, post.iceOf(id));
            Due.is("not open", false, post.isOpen(id));
        }
    }

    private static void idsOfLetters() {
        Sentence.ofTerms(5, "the first one has the id 0, and each further one has the id of the one before plus 1.");
        SledgePost post = Posts.inARow();
        post.addSledge(0, 30);
        Due.is("the first", 0, post.post(0, 1, 1, 1, 1));
        Due.is("the second", 1, post.post(0, 1, 1, 1, 1));
        Due.fails("refused", Due.ARGUMENT, () -> post.post(0, 1, 10, 1, 1));
        Due.is("after a refused one", 2, post.post(0, 2, 1, 1, 1));
        post.loadBest(0);
        post.send(0, 1);
        Due.is("delivered", 2, post.advance(5));
        Due.is("after deliveries", 3, post.post(0, 1, 1, 1, 1));
        post.send(0, 2);
        post.advance(4);
        post.load(0, post.post(2, 3, 1, 1, 1));
        post.send(0, 3);
        Due.is("the latest is delivered", 1, post.advance(3));
        Due.is("after its delivery", 5, post.post(0, 1, 1, 1, 1));
        post.undo();
        Due.is("after an undo", 5, post.post(0, 1, 1, 1, 1));
    }

    private static void letterWithoutStation() {
        Sentence.of(5, "Throws `IndexOutOfBoundsException` if there is no such station, for either argument");
        int[] none = Refusal.outside(5);
        Refusal.ofEach("from", Due.INDEX, Scenes::busy, none, (post, station) -> post.post(station, 0, 1, 1, 1));
        Refusal.ofEach("to", Due.INDEX, Scenes::busy, none, (post, station) -> post.post(0, station, 1, 1, 1));
        Refusal.of("in a new post", Due.INDEX, Scenes::fresh, post -> post.post(0, 1, 1, 1, 1));
        Due.is("from the last", 6, Scenes.busy().post(4, 3, 1, 1, 1));
        Due.is("to the last", 6, Scenes.busy().post(3, 4, 1, 1, 1));
    }

    private static void letterToWhereItIs() {
        Sentence.of(5, "both stations are the same");
        Refusal.ofEach("to itself", Due.ARGUMENT, Scenes::busy, new int[] {0, 1, 4}, (post, n) -> post.post(n, n, 1, 1, 1));
    }

    private static void weightOfLetter() {
        Sentence.of(5, "the weight is not between 1 and 9");
        Refusal.ofEach("weight", Due.ARGUMENT, Scenes::busy, Refusal.beyond(1, 9), (post, n) -> post.post(0, 1, n, 1, 1));
        for (int weight : new int[] {1, 2, 8, 9}) {
            SledgePost post = Scenes.busy();
            Due.is("weight", weight, post.weightOf(post.post(0, 1, weight, 1, 1)));
        }
    }

    private static void feeOfLetter() {
        Sentence.of(5, "the fee is not between 0 and 99");
        Refusal.ofEach("fee", Due.ARGUMENT, Scenes::busy, Refusal.beyond(0, 99), (post, n) -> post.post(0, 1, 1, n, 1));
        for (int fee : new int[] {0, 1, 98, 99}) {
            SledgePost post = Scenes.busy();
            Due.is("fee", fee, post.feeOf(post.post(0, 1, 1, fee, 1)));
        }
    }

    private static void strengthOfLetter() {
        Sentence.of(5, "or the strength is not between 1 and 99");
        int[] beyond = Refusal.beyond(1, 99);
        Refusal.ofEach("strength", Due.ARGUMENT, Scenes::busy, beyond, (post, n) -> post.post(0, 1, 1, 1, n));
        for (int strength : new int[] {1, 2, 98, 99}) {
            SledgePost post = Scenes.busy();
            Due.is("strength", strength, post.iceOf(post.post(0, 1, 1, 1, strength)));
        }
    }

    private static void thirteenthLetter() {
        Sentence.of(5, "Throws `IllegalStateException` if there are 12 letters in the post");
        SledgePost post = Posts.withStations(2);
        for (int i = 0; i < 12; i++) {
            Due.is("letter", i, post.post(0, 1, 1, 1, 1));
        }
        Due.fails("the thirteenth", Due.STATE, () -> post.post(0, 1, 1, 1, 1));
        post.undo();
        Due.is("the twelfth once more", 11, post.post(0, 1, 1, 1, 1));
        Refusal.of("in a full post", Due.STATE, Scenes::full, full -> full.post(0, 1, 1, 1, 1));
        Refusal.of("from elsewhere", Due.STATE, Scenes::full, full -> full.post(6, 5, 9, 99, 99));
    }

    private static void twelveAtATime() {
        Sentence.ofTerms(5, "At most 12 letters are in the post at a time.");
        SledgePost post = Posts.inARow();
        post.addSledge(0, 30);
        for (int i = 0; i < 12; i++) {
            post.post(0, 1 + i / 11, 1, 1, 1);
        }
        post.load(0, 3);
        Due.fails("also when one is on a sledge", Due.STATE, () -> post.post(0, 1, 1, 1, 1));
        post.send(0, 1);
        Due.fails("and when it travels", Due.STATE, () -> post.post(0, 1, 1, 1, 1));
        post.advance(5);
        Due.is("when it is delivered there is room", 12, post.post(0, 1, 1, 1, 1));
        Due.is("for one", 12, post.letterCount());
        Due.fails("and no more", Due.STATE, () -> post.post(0, 1, 1, 1, 1));
    }

    private static void orderForLetters() {
        Sentence.ofTerms(5, Refusal.IN_ORDER);
        Refusal.of("no station, and the same", Due.INDEX, Scenes::busy, post -> post.post(5, 5, 1, 1, 1));
        Refusal.of("no station, and too light", Due.INDEX, Scenes::busy, post -> post.post(0, 5, 0, 1, 1));
        Refusal.of("no station, and too many", Due.INDEX, Scenes::full, post -> post.post(7, 0, 1, 1, 1));
        Refusal.of("the same, and too many", Due.ARGUMENT, Scenes::full, post -> post.post(0, 0, 1, 1, 1));
        Refusal.of("too heavy, and too many", Due.ARGUMENT, Scenes::full, post -> post.post(0, 1, 10, 1, 1));
        Refusal.of("too dear, and too many", Due.ARGUMENT, Scenes::full, post -> post.post(0, 1, 1, 100, 1));
        Refusal.of("too strong, and too many", Due.ARGUMENT, Scenes::full, post -> post.post(0, 1, 1, 1, 100));
    }
}
