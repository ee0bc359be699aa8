import java.util.NoSuchElementException;

/** Promises 12 to 17: what is asked about stations. */
public final class StationsTest {
    private static final Class<IndexOutOfBoundsException> INDEX = IndexOutOfBoundsException.class;
    private static final Class<NoSuchElementException> ELEMENT = NoSuchElementException.class;

    public static void main(String[] args) {
        counts();
        roads();
        connections();
        distances();
        largeMap();
        wrongStations();
        waiting();
        Due.end();
    }

    private static void counts() {
        SledgePost post = new SledgePost();
        Due.is("12 none", 0, post.stationCount());
        post.addStation();
        Due.is("12 one", 1, post.stationCount());
        Due.is("12 seven", 7, Posts.withStations(7).stationCount());
    }

    private static void roads() {
        SledgePost post = Posts.inARow();
        Due.is("13 road", 5, post.road(0, 1));
        Due.is("13 the other way", 5, post.road(1, 0));
        Due.is("13 no road", 0, post.road(0, 2));
        Due.is("13 same", 0, post.road(2, 2));
    }

    private static void connections() {
        SledgePost post = Posts.inARow();
        Due.is("14 by roads", true, post.areConnected(0, 3));
        Due.is("14 back", true, post.areConnected(3, 0));
        Due.is("14 without", false, post.areConnected(0, 4));
        Due.is("14 same", true, post.areConnected(4, 4));
        post.setRoad(1, 2, 0);
        Due.is("14 cut", false, post.areConnected(0, 3));
        Due.is("14 still", true, post.areConnected(2, 3));
    }

    private static void bothDistances(String what, Object due, SledgePost post, int first, int second) {
        Due.is("15 " + what, due, Due.outcome(() -> post.distance(first, second)));
        Due.is("16 " + what, due, Due.outcome(() -> post.distanceByStations(first, second)));
    }

    private static void distances() {
        SledgePost post = Posts.inARow();
        bothDistances("sum", 12, post, 0, 3);
        bothDistances("back", 12, post, 3, 0);
        bothDistances("same", 0, post, 4, 4);
        bothDistances("no way", "NoSuchElementException", post, 4, 0);
        bothDistances("no way there", "NoSuchElementException", post, 0, 4);
        post.setRoad(0, 3, 13);
        bothDistances("round about is shorter", 12, post, 0, 3);
        post.setRoad(0, 3, 11);
        bothDistances("straight is shorter", 11, post, 0, 3);
        bothDistances("by the new road", 9, post, 0, 2);
        post.setRoad(0, 3, 1);
        bothDistances("backwards over three roads", 4, post, 0, 2);
        bothDistances("two ways", 5, post, 0, 1);
    }

    private static void largeMap() {
        SledgePost post = Posts.withStations(7);
        for (int i = 0; i < 6; i++) {
            post.setRoad(i, i + 1, 20);
        }
        bothDistances("longest", 120, post, 0, 6);
        bothDistances("longest back", 120, post, 6, 0);
        post.setRoad(6, 2, 1);
        post.setRoad(2, 4, 3);
        post.setRoad(4, 0, 2);
        bothDistances("in no order of indices", 6, post, 6, 0);
        bothDistances("one more", 21, post, 3, 6);
    }

    private static void wrongStations() {
        SledgePost post = Posts.inARow();
        int[][] wrong = {{-1, 0}, {0, -1}, {5, 0}, {0, 5}, {5, 5}, {Integer.MAX_VALUE, 0}, {0, Integer.MIN_VALUE}};
        for (int[] pair : wrong) {
            Due.fails("13 station", INDEX, () -> post.road(pair[0], pair[1]));
            Due.fails("14 station", INDEX, () -> post.areConnected(pair[0], pair[1]));
            Due.fails("15 station", INDEX, () -> post.distance(pair[0], pair[1]));
            Due.fails("16 station", INDEX, () -> post.distanceByStations(pair[0], pair[1]));
        }
    }

    private static void waiting() {
        SledgePost post = Posts.inARow();
        post.addSledge(0, 30);
        post.post(0, 1, 1, 1, 1);
        post.post(0, 2, 1, 1, 1);
        post.post(1, 0, 1, 1, 1);
        Due.is("17 two", 2, post.waitingIn(0));
        Due.is("17 one", 1, post.waitingIn(1));
        Due.is("17 none", 0, post.waitingIn(4));
        post.load(0, 1);
        Due.is("17 not on a sledge", 1, post.waitingIn(0));
        post.send(0, 1);
        post.advance(5);
        Due.is("17 nor on a sledge that came", 1, post.waitingIn(1));
        post.unload(0, 1);
        Due.is("17 unloaded", 2, post.waitingIn(1));
        Due.fails("17 station", INDEX, () -> post.waitingIn(5));
        Due.fails("17 negative", INDEX, () -> post.waitingIn(-1));
        Due.fails("17 no stations", INDEX, () -> new SledgePost().waitingIn(0));
        Due.fails("15 no way of a new station", ELEMENT, () -> post.distance(4, 2));
    }
}
