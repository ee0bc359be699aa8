/** Ordinary sentences of the promises 12 to 17: what is asked about stations. */
final class OrdinaryStations {
    private static final String FIRST = "- `first`: one station";
    private static final String SECOND = "- `second`: the other station";
    private static final int[][] ROADS = {
        {0, 4, 0, 9, 0, 0},
        {4, 0, 6, 0, 0, 0},
        {0, 6, 0, 2, 0, 0},
        {9, 0, 2, 0, 7, 0},
        {0, 0, 0, 7, 0, 0},
        {0, 0, 0, 0, 0, 0},
    };
    // Of the five stations that have roads.
    private static final int[][] DISTANCES = {
        {0, 4, 10, 9, 16},
        {4, 0, 6, 8, 15},
        {10, 6, 0, 2, 9},
        {9, 8, 2, 0, 7},
        {16, 15, 9, 7, 0},
    };

    private interface Question {
        Object of(SledgePost post, int first, int second);
    }

    private OrdinaryStations() {
    }

    static void run() {
        Sentence.each(
                OrdinaryStations::stationCount,
                OrdinaryStations::road,
                OrdinaryStations::areConnected,
                OrdinaryStations::distance,
                OrdinaryStations::distanceByStations,
                OrdinaryStations::waitingIn);
    }

    private static void allPairs(int[][] due, Question question) {
        SledgePost post = Scenes.town();
        for (int first = 0; first < due.length; first++) {
            for (int second = 0; second < due.length; second++) {
                Due.is(first + " and " + second, due[first][second], question.of(post, first, second));
            }
        }
    }

    private static void stationCount() {
        Sentence.of(12, "Returns the number of stations.");
        SledgePost post = Scenes.town();
        Due.is("six", 6, post.stationCount());
        post.addStation();
        Due.is("seven", 7, post.stationCount());
    }

    private static void road() {
        Sentence.of(13, "Returns the length of the road between two stations.");
        allPairs(ROADS, SledgePost::road);
        Sentence.of(13, FIRST);
        SledgePost post = Scenes.town();
        Due.is("from 2", 2, post.road(2, 3));
        Due.is("from 4", 7, post.road(4, 3));
    }

    private static void areConnected() {
        Sentence.of(14, "Returns whether two stations are connected.");
        SledgePost post = Scenes.town();
        Due.is("by a road", true, post.areConnected(0, 1));
        Due.is("by some roads", true, post.areConnected(1, 4));
        Due.is("by none", false, post.areConnected(5, 2));
        Sentence.of(14, FIRST);
        Due.is("from 4", true, post.areConnected(4, 2));
        Due.is("from 5", false, post.areConnected(5, 4));
        Sentence.of(14, SECOND);
        Due.is("to 3", true, post.areConnected(0, 3));
        Due.is("to 5", false, post.areConnected(0, 5));
    }

    private static void distance() {
        Sentence.of(15, "Returns the distance of two stations, found by going on from the nearest station again and");
        allPairs(DISTANCES, SledgePost::distance);
        oneByOne(15, SledgePost::distance);
    }

    private static void distanceByStations() {
        Sentence.of(16, "Returns the same distance, found by allowing more and more stations on the way.");
        allPairs(DISTANCES, SledgePost::distanceByStations);
        oneByOne(16, SledgePost::distanceByStations);
    }

    private static void oneByOne(int promise, Question question) {
        SledgePost post = Scenes.town();
        Sentence.of(promise, FIRST);
        Due.is("from 0", 16, question.of(post, 0, 4));
        Due.is("from 2", 9, question.of(post, 2, 4));
        Sentence.of(promise, SECOND);
        Due.is("to 1", 8, question.of(post, 3, 1));
        Due.is("to 0", 9, question.of(post, 3, 0));
        Sentence.of(promise, "Returns the distance in hours.");
        Due.is("as many as a sledge travels", post.send(0, 4), question.of(post, 1, 4));
        Due.is("and has left", post.hoursLeft(0), question.of(post, 1, 4));
    }

    private static void waitingIn() {
        SledgePost post = Scenes.town();
        Sentence.of(17, "Returns the number of letters that wait in a station.");
        Due.is("two", 2, post.waitingIn(1));
        Sentence.of(17, "- `station`: the index of the station");
        Due.is("one", 1, post.waitingIn(3));
        Due.is("none, as they are on a sledge", 0, post.waitingIn(0));
        Sentence.of(17, "Returns the number of letters.");
        post.post(3, 0, 9, 99, 99);
        Due.is("not of units of weight", 2, post.waitingIn(3));
    }
}
