import java.util.NoSuchElementException;

/** Promises 18 to 29: what is asked about sledges. */
public final class SledgesTest {
    private static final Class<IndexOutOfBoundsException> INDEX = IndexOutOfBoundsException.class;
    private static final Class<IllegalStateException> STATE = IllegalStateException.class;
    private static final Class<NoSuchElementException> ELEMENT = NoSuchElementException.class;

    public static void main(String[] args) {
        plainQuestions();
        wrongSledges();
        bestLoads();
        roundTrips();
        tripsOfTravellers();
        longTrip();
        Due.end();
    }

    private static void plainQuestions() {
        SledgePost post = Posts.inARow();
        Due.is("18 none", 0, post.sledgeCount());
        post.addSledge(1, 17);
        post.addSledge(0, 30);
        Due.is("18 two", 2, post.sledgeCount());
        Due.is("19 capacity", 17, post.capacity(0));
        Due.is("19 of the other", 30, post.capacity(1));
        Due.is("20 empty", 0, post.loadOf(1));
        Due.is("24 empty", 0, post.lettersOn(1));
        post.post(0, 3, 4, 1, 1);
        post.post(0, 2, 3, 1, 1);
        post.post(0, 3, 9, 1, 1);
        post.load(1, 2);
        post.load(1, 0);
        Due.is("20 weights", 13, post.loadOf(1));
        Due.is("20 of the other", 0, post.loadOf(0));
        Due.is("24 letters", 2, post.lettersOn(1));
        Due.is("24 of the other", 0, post.lettersOn(0));
        Due.is("25 in the order of ids", 0, post.letterOn(1, 0));
        Due.is("25 second", 2, post.letterOn(1, 1));
        Due.fails("25 behind", ELEMENT, () -> post.letterOn(1, 2));
        Due.fails("25 negative", ELEMENT, () -> post.letterOn(1, -1));
        Due.fails("25 empty", ELEMENT, () -> post.letterOn(0, 0));
        Due.is("21 stands", false, post.isTravelling(1));
        Due.is("22 stands in", 0, post.stationOfSledge(1));
        Due.is("23 stands", 0, post.hoursLeft(1));
        post.send(1, 2);
        Due.is("21 travels", true, post.isTravelling(1));
        Due.is("22 travels to", 2, post.stationOfSledge(1));
        Due.is("23 travels", 9, post.hoursLeft(1));
        post.advance(8);
        Due.is("21 nearly there", true, post.isTravelling(1));
        Due.is("23 nearly there", 1, post.hoursLeft(1));
        Due.is("20 on the way", 13, post.loadOf(1));
        post.advance(1);
        Due.is("21 there", false, post.isTravelling(1));
        Due.is("23 there", 0, post.hoursLeft(1));
        Due.is("22 there", 2, post.stationOfSledge(1));
        Due.is("22 the other", 1, post.stationOfSledge(0));
    }

    private static void wrongSledges() {
        SledgePost post = Posts.inARow();
        post.addSledge(0, 10);
        for (int wrong : new int[] {-1, 1, 3, Integer.MAX_VALUE, Integer.MIN_VALUE}) {
            Due.fails("19", INDEX, () -> post.capacity(wrong));
            Due.fails("20", INDEX, () -> post.loadOf(wrong));
            Due.fails("21", INDEX, () -> post.isTravelling(wrong));
            Due.fails("22", INDEX, () -> post.stationOfSledge(wrong));
            Due.fails("23", INDEX, () -> post.hoursLeft(wrong));
            Due.fails("24", INDEX, () -> post.lettersOn(wrong));
            Due.fails("25", INDEX, () -> post.letterOn(wrong, -1));
            Due.fails("26", INDEX, () -> post.bestLoadFee(wrong));
            Due.fails("27", INDEX, () -> post.bestLoadFeeByTrying(wrong));
            Due.fails("28", INDEX, () -> post.roundTrip(wrong));
            Due.fails("29", INDEX, () -> post.roundTripByOrders(wrong));
        }
    }

    private static void bothFees(String what, Object due, SledgePost post, int sledge) {
        Due.is("26 " + what, due, Due.outcome(() -> post.bestLoadFee(sledge)));
        Due.is("27 " + what, due, Due.outcome(() -> post.bestLoadFeeByTrying(sledge)));
    }

    private static void bestLoads() {
        SledgePost post = Posts.inARow();
        post.addSledge(0, 10);
        post.addSledge(1, 5);
        bothFees("nothing waits", 0, post, 0);
        post.post(0, 1, 9, 60, 1);
        bothFees("only one", 60, post, 0);
        post.post(0, 1, 5, 40, 1);
        post.post(0, 1, 5, 30, 1);
        post.post(1, 0, 5, 99, 1);
        bothFees("two light ones", 70, post, 0);
        bothFees("in its own station", 99, post, 1);
        Due.is("26 loads nothing", 0, post.lettersOn(0));
        post.load(0, 1);
        bothFees("only what is added", 30, post, 0);
        post.load(0, 2);
        bothFees("full", 0, post, 0);
        post.unload(0, 1);
        post.unload(0, 2);
        for (int i = 0; i < 8; i++) {
            post.post(0, 2, 1, 99, 1);
        }
        bothFees("many light ones", 8 * 99, post, 0);
        Due.is("24 still none", 0, post.lettersOn(0));
        post.send(0, 1);
        bothFees("travels", STATE.getSimpleName(), post, 0);
    }

    private static void bothTrips(String what, Object due, SledgePost post, int sledge) {
        Due.is("28 " + what, due, Due.outcome(() -> post.roundTrip(sledge)));
        Due.is("29 " + what, due, Due.outcome(() -> post.roundTripByOrders(sledge)));
    }

    private static void roundTrips() {
        SledgePost post = Posts.inARow();
        post.addSledge(1, 30);
        bothTrips("no letters", 0, post, 0);
        post.post(1, 0, 1, 1, 1);
        post.post(1, 3, 1, 1, 1);
        post.post(1, 3, 1, 1, 1);
        post.post(1, 4, 1, 1, 1);
        bothTrips("letters that only wait", 0, post, 0);
        post.load(0, 0);
        bothTrips("there and back", 10, post, 0);
        post.load(0, 1);
        post.load(0, 2);
        bothTrips("both sides, one of them twice", 24, post, 0);
        post.setRoad(0, 3, 2);
        bothTrips("in a ring", 14, post, 0);
        post.load(0, 3);
        bothTrips("one not connected", ELEMENT.getSimpleName(), post, 0);
        post.unload(0, 3);
        bothTrips("without it", 14, post, 0);
        post.setRoad(0, 4, 1);
        post.load(0, 3);
        bothTrips("with it again", 16, post, 0);
        post.setRoad(0, 1, 0);
        post.setRoad(0, 3, 0);
        bothTrips("the first one not connected", ELEMENT.getSimpleName(), post, 0);
        post.unload(0, 3);
        bothTrips("nor is it now", ELEMENT.getSimpleName(), post, 0);
        post.unload(0, 0);
        bothTrips("without the first one", 14, post, 0);
    }

    private static void tripsOfTravellers() {
        SledgePost post = Posts.inARow();
        post.addSledge(0, 30);
        post.post(0, 3, 1, 1, 1);
        post.post(0, 2, 1, 1, 1);
        post.load(0, 0);
        post.load(0, 1);
        bothTrips("from where it stands", 24, post, 0);
        post.send(0, 2);
        bothTrips("from where it goes to", 6, post, 0);
    }

    private static void longTrip() {
        SledgePost post = Posts.withStations(7);
        int[] order = {0, 4, 2, 6, 1, 5, 3};
        for (int i = 0; i < 7; i++) {
            post.setRoad(order[i], order[(i + 1) % 7], 10 + i);
        }
        post.addSledge(0, 30);
        for (int goal = 1; goal < 7; goal++) {
            post.post(0, goal, 2, 5, 1);
            post.post(0, goal, 2, 5, 1);
        }
        Due.is("8 all", 12, post.loadBest(0));
        bothTrips("seven stations", 91, post, 0);
        for (int other = 1; other < 7; other++) {
            post.setRoad(0, other, 1);
        }
        bothTrips("a star", 12, post, 0);
        post.send(0, 6);
        bothTrips("to a goal", 12, post, 0);
        ringFrom(3);
        ringFrom(6);
    }

    private static void ringFrom(int home) {
        SledgePost post = Posts.withStations(7);
        int[] order = {0, 4, 2, 6, 1, 5, 3};
        for (int i = 0; i < 7; i++) {
            post.setRoad(order[i], order[(i + 1) % 7], 10 + i);
        }
        post.addSledge(home, 30);
        for (int goal = 0; goal < 7; goal++) {
            if (goal != home) {
                post.post(home, goal, 1, 1, 1);
            }
        }
        post.loadBest(0);
        bothTrips("the ring from " + home, 91, post, 0);
    }
}
