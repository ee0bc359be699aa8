/** Boundary sentences of the promises 12 to 17: what is asked about stations. */
final class BoundariesOfStations {
    private static final String NO_STATION =
            "Throws `IndexOutOfBoundsException` if there is no such station, for either argument";
    private static final String NOT_CONNECTED = "Throws `NoSuchElementException` if they are not connected";

    private interface Question {
        Object of(SledgePost post, int first, int second);
    }

    private BoundariesOfStations() {
    }

    static void run() {
        Sentence.each(
                BoundariesOfStations::noneAndSeven,
                BoundariesOfStations::roadToItself,
                BoundariesOfStations::noRoad,
                BoundariesOfStations::connectedOrNot,
                BoundariesOfStations::sameOrByRoads,
                BoundariesOfStations::sameStation,
                BoundariesOfStations::longestWay,
                () -> withoutStation(13, SledgePost::road),
                () -> withoutStation(14, SledgePost::areConnected),
                () -> withoutStation(15, SledgePost::distance),
                () -> withoutStation(16, SledgePost::distanceByStations),
                () -> notConnected(15, SledgePost::distance),
                () -> notConnected(16, SledgePost::distanceByStations),
                () -> order(15, SledgePost::distance),
                () -> order(16, SledgePost::distanceByStations),
                BoundariesOfStations::noneWaits,
                BoundariesOfStations::waitingWithoutStation);
    }

    private static void noneAndSeven() {
        Sentence.of(12, "Returns the number of stations.");
        SledgePost post = new SledgePost();
        Due.is("none", 0, post.stationCount());
        for (int i = 1; i <= 7; i++) {
            post.addStation();
            Due.is("so far", i, post.stationCount());
        }
        Due.fails("no eighth", Due.STATE, post::addStation);
        Due.is("still", 7, post.stationCount());
    }

    private static void roadToItself() {
        Sentence.of(13, "the other station, which may be the same");
        SledgePost post = Scenes.full();
        for (int i = 0; i < 7; i++) {
            Due.is("to itself", 0, post.road(i, i));
        }
    }

    private static void noRoad() {
        Sentence.of(13, "Returns the length, 0 if there is no road.");
        SledgePost post = Posts.withStations(7);
        Due.is("no road", 0, post.road(6, 5));
        post.setRoad(5, 6, 20);
        Due.is("the longest", 20, post.road(6, 5));
        post.setRoad(4, 5, 1);
        Due.is("the shortest", 1, post.road(5, 4));
        Due.is("a way is no road", 0, post.road(4, 6));
        post.setRoad(6, 5, 0);
        Due.is("no road any more", 0, post.road(5, 6));
    }

    private static void connectedOrNot() {
        Sentence.of(14, "Returns true if they are connected.");
        SledgePost post = Posts.inARow();
        Due.is("over three roads", true, post.areConnected(0, 3));
        Due.is("not with the one without roads", false, post.areConnected(0, 4));
        Due.is("nor that one with the others", false, post.areConnected(4, 3));
    }

    private static void sameOrByRoads() {
        Sentence.ofTerms(14, "Two stations are connected if they are the same or such roads exist.");
        SledgePost post = Posts.withStations(7);
        for (int i = 0; i < 7; i++) {
            Due.is("the same, without roads", true, post.areConnected(i, i));
        }
        Due.is("different, without roads", false, post.areConnected(0, 6));
        for (int i = 6; i > 0; i--) {
            post.setRoad(i, i - 1, 20);
        }
        Due.is("over all of them", true, post.areConnected(0, 6));
        Due.is("and back", true, post.areConnected(6, 0));
        post.setRoad(3, 4, 0);
        Due.is("broken in the middle", false, post.areConnected(0, 6));
        Due.is("this side", true, post.areConnected(0, 3));
        Due.is("that side", true, post.areConnected(4, 6));
    }

    private static void bothWays(String what, Object due, SledgePost post, int first, int second) {
        Due.is(what, due, Due.outcome(() -> post.distance(first, second)));
        Due.is(what + ", by stations", due, Due.outcome(() -> post.distanceByStations(first, second)));
        Due.is(what + ", back", due, Due.outcome(() -> post.distance(second, first)));
        Due.is(what + ", back by stations", due, Due.outcome(() -> post.distanceByStations(second, first)));
    }

    private static void sameStation() {
        Sentence.ofTerms(15, "in whatever direction, and 0 if they are the same.");
        SledgePost post = Scenes.full();
        for (int i = 0; i < 7; i++) {
            bothWays("the same", 0, post, i, i);
        }
        bothWays("the nearest", 3, post, 2, 3);
        bothWays("the only one", 0, Posts.withStations(1), 0, 0);
    }

    private static void longestWay() {
        Sentence.ofTerms(16, "The distance of two stations is the smallest sum of lengths of roads");
        SledgePost post = Posts.withStations(7);
        int[] order = {3, 0, 6, 1, 5, 2, 4};
        for (int i = 0; i < 6; i++) {
            post.setRoad(order[i], order[i + 1], 20);
        }
        bothWays("over all of them", 120, post, 3, 4);
        post.setRoad(0, 2, 20);
        bothWays("over four", 60, post, 3, 4);
        post.setRoad(3, 4, 20);
        bothWays("straight", 20, post, 3, 4);
        post.setRoad(6, 4, 1);
        post.setRoad(3, 6, 18);
        bothWays("one hour less round about", 19, post, 3, 4);
        post.setRoad(3, 6, 19);
        bothWays("as far round about", 20, post, 3, 4);
    }

    private static void withoutStation(int promise, Question question) {
        Sentence.of(promise, NO_STATION);
        for (int none : Refusal.outside(5)) {
            Refusal.of("from " + none, Due.INDEX, Scenes::busy, post -> question.of(post, none, 0));
            Refusal.of("to " + none, Due.INDEX, Scenes::busy, post -> question.of(post, 0, none));
            Refusal.of("both " + none, Due.INDEX, Scenes::busy, post -> question.of(post, none, none));
        }
        Refusal.of("beyond the seventh", Due.INDEX, Scenes::full, post -> question.of(post, 6, 7));
        Refusal.of("from beyond the seventh", Due.INDEX, Scenes::full, post -> question.of(post, 7, 6));
        Refusal.of("in a new post", Due.INDEX, Scenes::fresh, post -> question.of(post, 0, 0));
    }

    private static void notConnected(int promise, Question question) {
        Sentence.of(promise, NOT_CONNECTED);
        Refusal.of("to one without roads", Due.ELEMENT, Scenes::busy, post -> question.of(post, 0, 4));
        Refusal.of("from one without roads", Due.ELEMENT, Scenes::busy, post -> question.of(post, 4, 3));
        Refusal.of("from the last", Due.ELEMENT, Scenes::full, post -> question.of(post, 6, 5));
        SledgePost post = Scenes.full();
        post.setRoad(5, 6, 20);
        Due.is("now they are", 20, question.of(post, 6, 5));
        Due.fails("the others are not", Due.ELEMENT, () -> question.of(post, 6, 0));
        post.setRoad(5, 6, 0);
        Due.fails("not any more", Due.ELEMENT, () -> question.of(post, 6, 5));
    }

    private static void order(int promise, Question question) {
        Sentence.ofTerms(promise, Refusal.IN_ORDER);
        Refusal.of("no station, to which no road leads", Due.INDEX, Scenes::busy, post -> question.of(post, 4, 5));
        Refusal.of("no station, from which no road leads", Due.INDEX, Scenes::busy, post -> question.of(post, -1, 4));
    }

    private static void noneWaits() {
        Sentence.of(17, "Returns the number of letters that wait in a station.");
        SledgePost post = Posts.inARow();
        post.addSledge(4, 30);
        Due.is("none", 0, post.waitingIn(4));
        for (int i = 1; i <= 12; i++) {
            post.post(4, 0, 1, 1, 1);
            Due.is("so far", i, post.waitingIn(4));
        }
        Due.is("none elsewhere", 0, post.waitingIn(0));
        post.load(0, 0);
        Due.is("one less", 11, post.waitingIn(4));
        post.loadBest(0);
        Due.is("none any more", 0, post.waitingIn(4));
    }

    private static void waitingWithoutStation() {
        Sentence.of(17, "Throws `IndexOutOfBoundsException` if there is no such station");
        Refusal.ofEach("station", Due.INDEX, Scenes::busy, Refusal.outside(5), SledgePost::waitingIn);
        Refusal.of("beyond the seventh", Due.INDEX, Scenes::full, post -> post.waitingIn(7));
        Refusal.of("in a new post", Due.INDEX, Scenes::fresh, post -> post.waitingIn(0));
    }
}
