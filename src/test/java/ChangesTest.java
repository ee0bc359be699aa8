import java.util.NoSuchElementException;

/** Promises 1 to 11: a new object and the changes. */
public final class ChangesTest {
    private static final Class<IndexOutOfBoundsException> INDEX = IndexOutOfBoundsException.class;
    private static final Class<IllegalArgumentException> ARGUMENT = IllegalArgumentException.class;
    private static final Class<IllegalStateException> STATE = IllegalStateException.class;
    private static final Class<NoSuchElementException> ELEMENT = NoSuchElementException.class;
    private static final Class<UnsupportedOperationException> UNSUPPORTED = UnsupportedOperationException.class;

    public static void main(String[] args) {
        newObject();
        addStation();
        setRoad();
        addSledge();
        post();
        load();
        unload();
        loadBest();
        loadBestTies();
        send();
        setTemperature();
        advance();
        ice();
        delivery();
        refusedCallsChangeNothing();
        Due.end();
    }

    private static void newObject() {
        SledgePost post = new SledgePost();
        Due.is("1 stations", 0, post.stationCount());
        Due.is("1 sledges", 0, post.sledgeCount());
        Due.is("1 letters", 0, post.letterCount());
        Due.is("1 time", 0, post.time());
        Due.is("1 temperature", 0, post.temperature());
        Due.is("1 coins", 0, post.coins());
        Due.is("1 delivered", 0, post.deliveredTotal());
        post.addStation();
        Due.is("1 objects are apart", 0, new SledgePost().stationCount());
    }

    private static void addStation() {
        SledgePost post = new SledgePost();
        for (int i = 0; i < 7; i++) {
            Due.is("2 index", i, post.addStation());
        }
        Due.fails("2 eighth", STATE, post::addStation);
        Due.is("2 count", 7, post.stationCount());
        Due.is("2 without roads", 0, post.road(6, 0));
        Due.is("2 alone", false, post.areConnected(6, 5));
    }

    private static void setRoad() {
        SledgePost post = Posts.withStations(3);
        Due.is("3 new", 0, post.setRoad(0, 1, 1));
        Due.is("3 longer", 1, post.setRoad(0, 1, 20));
        Due.is("3 the other way round", 20, post.setRoad(1, 0, 7));
        Due.is("3 away", 7, post.setRoad(0, 1, 0));
        Due.is("3 none any more", 0, post.road(1, 0));
        Due.fails("3 first", INDEX, () -> post.setRoad(3, 0, 1));
        Due.fails("3 second", INDEX, () -> post.setRoad(0, 3, 1));
        Due.fails("3 negative", INDEX, () -> post.setRoad(-1, 0, 1));
        Due.fails("3 negative second", INDEX, () -> post.setRoad(0, -1, 1));
        Due.fails("3 same", ARGUMENT, () -> post.setRoad(2, 2, 1));
        Due.fails("3 long", ARGUMENT, () -> post.setRoad(0, 1, 21));
        Due.fails("3 short", ARGUMENT, () -> post.setRoad(0, 1, -1));
        Due.fails("3 index first", INDEX, () -> post.setRoad(3, 3, 21));
    }

    private static void addSledge() {
        SledgePost post = Posts.withStations(2);
        Due.is("4 least", 0, post.addSledge(1, 5));
        Due.is("4 most", 1, post.addSledge(0, 30));
        Due.fails("4 small", ARGUMENT, () -> post.addSledge(0, 4));
        Due.fails("4 large", ARGUMENT, () -> post.addSledge(0, 31));
        Due.fails("4 station", INDEX, () -> post.addSledge(2, 4));
        Due.fails("4 negative station", INDEX, () -> post.addSledge(-1, 10));
        Due.is("4 third", 2, post.addSledge(0, 10));
        Due.fails("4 fourth", STATE, () -> post.addSledge(0, 10));
        Due.fails("4 argument before state", ARGUMENT, () -> post.addSledge(0, 31));
        Due.fails("4 index before state", INDEX, () -> post.addSledge(2, 10));
        Due.is("4 stands", false, post.isTravelling(0));
        Due.is("4 there", 1, post.stationOfSledge(0));
        Due.is("4 empty", 0, post.lettersOn(0));
    }

    private static void post() {
        SledgePost post = Posts.withStations(3);
        Due.is("5 least", 0, post.post(0, 1, 1, 0, 1));
        Due.is("5 most", 1, post.post(1, 2, 9, 99, 99));
        Due.is("5 waits", 1, post.stationOfLetter(1));
        Due.is("5 full of ice", 99, post.iceOf(1));
        Due.fails("5 from", INDEX, () -> post.post(3, 1, 1, 1, 1));
        Due.fails("5 to", INDEX, () -> post.post(1, 3, 1, 1, 1));
        Due.fails("5 negative from", INDEX, () -> post.post(-1, 1, 1, 1, 1));
        Due.fails("5 negative to", INDEX, () -> post.post(1, -1, 1, 1, 1));
        Due.fails("5 index first", INDEX, () -> post.post(3, 3, 0, 1, 1));
        Due.fails("5 same", ARGUMENT, () -> post.post(1, 1, 1, 1, 1));
        Due.fails("5 light", ARGUMENT, () -> post.post(0, 1, 0, 1, 1));
        Due.fails("5 heavy", ARGUMENT, () -> post.post(0, 1, 10, 1, 1));
        Due.fails("5 cheap", ARGUMENT, () -> post.post(0, 1, 1, -1, 1));
        Due.fails("5 dear", ARGUMENT, () -> post.post(0, 1, 1, 100, 1));
        Due.fails("5 weak", ARGUMENT, () -> post.post(0, 1, 1, 1, 0));
        Due.fails("5 strong", ARGUMENT, () -> post.post(0, 1, 1, 1, 100));
        for (int id = 2; id < 12; id++) {
            Due.is("5 id after failures", id, post.post(0, 1, 1, 1, 1));
        }
        Due.fails("5 thirteenth", STATE, () -> post.post(0, 1, 1, 1, 1));
        Due.fails("5 argument before state", ARGUMENT, () -> post.post(0, 1, 1, 1, 100));
        Due.is("5 twelve", 12, post.letterCount());
    }

    private static void load() {
        SledgePost post = Posts.inARow();
        post.addSledge(0, 10);
        post.addSledge(1, 30);
        post.post(0, 1, 4, 1, 1);
        post.post(0, 1, 6, 1, 1);
        post.post(0, 1, 1, 1, 1);
        post.post(1, 0, 9, 1, 1);
        Due.is("6 first", 4, post.load(0, 0));
        Due.is("6 just full", 10, post.load(0, 1));
        Due.fails("6 too much", UNSUPPORTED, () -> post.load(0, 2));
        Due.fails("6 sledge", INDEX, () -> post.load(2, 99));
        Due.fails("6 negative sledge", INDEX, () -> post.load(-1, 0));
        Due.fails("6 letter", ELEMENT, () -> post.load(0, 4));
        Due.fails("6 negative letter", ELEMENT, () -> post.load(0, -1));
        Due.fails("6 elsewhere", STATE, () -> post.load(0, 3));
        Due.fails("6 on it already", STATE, () -> post.load(0, 0));
        Due.fails("6 on another sledge", STATE, () -> post.load(1, 0));
        Due.is("6 on it", 0, post.sledgeOf(1));
        post.send(0, 1);
        Due.fails("6 travels", STATE, () -> post.load(0, 3));
        Due.fails("6 letter before travels", ELEMENT, () -> post.load(0, 44));
    }

    private static void unload() {
        SledgePost post = Posts.inARow();
        post.addSledge(0, 30);
        post.addSledge(0, 30);
        post.post(0, 3, 4, 1, 9);
        post.post(0, 2, 6, 1, 9);
        post.load(0, 0);
        post.load(0, 1);
        Due.fails("7 sledge", INDEX, () -> post.unload(2, 77));
        Due.fails("7 negative sledge", INDEX, () -> post.unload(-1, 0));
        Due.fails("7 letter", ELEMENT, () -> post.unload(0, 2));
        Due.fails("7 other sledge", STATE, () -> post.unload(1, 0));
        post.send(0, 1);
        Due.fails("7 travels", STATE, () -> post.unload(0, 0));
        Due.fails("7 letter before travels", ELEMENT, () -> post.unload(0, 9));
        post.advance(5);
        Due.is("7 rest", 6, post.unload(0, 0));
        Due.is("7 waits there", 1, post.stationOfLetter(0));
        Due.fails("7 not on it any more", STATE, () -> post.unload(0, 0));
        Due.is("7 empty", 0, post.unload(0, 1));
        Due.is("7 both wait", 2, post.waitingIn(1));
    }

    private static void loadBest() {
        SledgePost post = Posts.inARow();
        post.addSledge(0, 10);
        Due.is("8 no letters", 0, post.loadBest(0));
        post.post(0, 1, 5, 10, 1);
        post.post(0, 1, 5, 10, 1);
        post.post(0, 1, 9, 19, 1);
        post.post(1, 0, 1, 99, 1);
        Due.is("8 two for twenty", 2, post.loadBest(0));
        Due.is("8 the first", 0, post.letterOn(0, 0));
        Due.is("8 the second", 1, post.letterOn(0, 1));
        post.unload(0, 1);
        post.post(0, 2, 5, 11, 1);
        Due.is("8 in addition", 1, post.loadBest(0));
        Due.is("8 what fits", "0:10/10@0#0#4", Posts.sledge(post, 0));
        Due.is("8 full", 0, post.loadBest(0));
        Due.fails("8 sledge", INDEX, () -> post.loadBest(1));
        Due.fails("8 negative sledge", INDEX, () -> post.loadBest(-1));
        post.send(0, 1);
        Due.fails("8 travels", STATE, () -> post.loadBest(0));
    }

    private static void loadBestTies() {
        SledgePost fees = Posts.withStations(2);
        fees.addSledge(0, 8);
        fees.post(0, 1, 2, 0, 1);
        fees.post(0, 1, 8, 30, 1);
        fees.post(0, 1, 3, 10, 1);
        fees.post(0, 1, 3, 20, 1);
        fees.loadBest(0);
        Due.is("8 lighter, and none without a fee", "0:6/8@0#2#3", Posts.sledge(fees, 0));

        SledgePost ids = Posts.withStations(2);
        ids.addSledge(0, 7);
        ids.post(0, 1, 3, 12, 1);
        ids.post(0, 1, 4, 12, 1);
        ids.post(0, 1, 2, 10, 1);
        ids.post(0, 1, 5, 14, 1);
        ids.post(0, 1, 3, 12, 1);
        // Fee 24 weighs 6 as 0 and 4, 7 as 0 and 1, as 1 and 4, and as 2 and 3.
        ids.loadBest(0);
        Due.is("8 lightest", "0:6/7@0#0#4", Posts.sledge(ids, 0));

        SledgePost lowest = Posts.withStations(2);
        lowest.addSledge(0, 10);
        lowest.post(0, 1, 3, 10, 1);
        lowest.post(0, 1, 5, 20, 1);
        lowest.post(0, 1, 5, 20, 1);
        lowest.post(0, 1, 7, 30, 1);
        // Fee 40 and weight 10 are 0 and 3 or 1 and 2.
        Due.is("8 lowest id count", 2, lowest.loadBest(0));
        Due.is("8 lowest id", "0:10/10@0#0#3", Posts.sledge(lowest, 0));

        SledgePost many = Posts.withStations(2);
        many.addSledge(0, 30);
        for (int i = 0; i < 12; i++) {
            many.post(0, 1, 5, 99, 1);
        }
        Due.is("8 six of twelve", 6, many.loadBest(0));
        Due.is("8 the first six", "0:30/30@0#0#1#2#3#4#5", Posts.sledge(many, 0));
    }

    private static void send() {
        SledgePost post = Posts.inARow();
        post.addSledge(0, 10);
        post.addSledge(3, 10);
        Due.fails("9 sledge", INDEX, () -> post.send(2, 0));
        Due.fails("9 negative sledge", INDEX, () -> post.send(-1, 0));
        Due.fails("9 station", INDEX, () -> post.send(0, 5));
        Due.fails("9 negative station", INDEX, () -> post.send(0, -1));
        Due.fails("9 stands there", STATE, () -> post.send(0, 0));
        Due.fails("9 no way", UNSUPPORTED, () -> post.send(0, 4));
        Due.is("9 hours", 9, post.send(0, 2));
        Due.is("9 toll", -9, post.coins());
        Due.is("9 travels", true, post.isTravelling(0));
        Due.is("9 to", 2, post.stationOfSledge(0));
        Due.fails("9 travels already", STATE, () -> post.send(0, 1));
        Due.fails("9 state before no way", STATE, () -> post.send(0, 4));
        Due.fails("9 index before state", INDEX, () -> post.send(0, 5));
        post.setRoad(1, 2, 0);
        Due.is("9 as far as it was when sent", 9, post.hoursLeft(0));
        post.setRoad(1, 2, 20);
        post.advance(9);
        Due.is("9 arrived", false, post.isTravelling(0));
        Due.is("9 now by the long road", 23, post.send(1, 1));
        Due.is("9 both tolls", -32, post.coinsByAccounts());
    }

    private static void setTemperature() {
        SledgePost post = new SledgePost();
        Due.is("10 initially", 0, post.setTemperature(-30));
        Due.is("10 coldest", -30, post.setTemperature(10));
        Due.is("10 warmest", 10, post.setTemperature(0));
        Due.fails("10 too warm", ARGUMENT, () -> post.setTemperature(11));
        Due.fails("10 too cold", ARGUMENT, () -> post.setTemperature(-31));
        Due.is("10 as before", 0, post.temperature());
    }

    private static void advance() {
        SledgePost post = Posts.inARow();
        Due.is("11 one", 0, post.advance(1));
        Due.is("11 most", 0, post.advance(48));
        Due.is("11 time", 49, post.time());
        Due.fails("11 none", ARGUMENT, () -> post.advance(0));
        Due.fails("11 negative", ARGUMENT, () -> post.advance(-1));
        Due.fails("11 too many", ARGUMENT, () -> post.advance(49));
        Due.is("11 time after failures", 49, post.time());
    }

    private static void ice() {
        SledgePost post = Posts.withStations(2);
        post.post(0, 1, 1, 1, 10);
        post.post(0, 1, 1, 1, 3);
        post.advance(2);
        Due.is("11 no change at 0 degrees", 10, post.iceOf(0));
        post.setTemperature(4);
        post.advance(1);
        Due.is("11 thaws", 6, post.iceOf(0));
        Due.is("11 not below 0", 0, post.iceOf(1));
        post.setTemperature(0);
        post.advance(1);
        Due.is("11 neither thaws nor freezes at 0 degrees", 6, post.iceOf(0));
        post.setTemperature(-30);
        post.advance(3);
        Due.is("11 freezes by 1", 9, post.iceOf(0));
        Due.is("11 open remains open", 0, post.iceOf(1));
        post.advance(9);
        Due.is("11 not beyond its strength", 10, post.iceOf(0));
        post.setTemperature(10);
        post.advance(1);
        Due.is("11 exactly 0 is open", true, post.isOpen(0));
    }

    private static void delivery() {
        SledgePost post = Posts.inARow();
        post.addSledge(0, 30);
        post.addSledge(2, 30);
        post.post(0, 1, 2, 25, 5);
        post.post(0, 1, 2, 30, 6);
        post.post(0, 2, 2, 40, 9);
        post.post(1, 0, 2, 50, 9);
        post.post(2, 1, 2, 7, 9);
        post.loadBest(0);
        post.loadBest(1);
        post.setTemperature(1);
        post.send(0, 1);
        post.send(1, 1);
        Due.is("11 one sledge comes", 1, post.advance(4));
        Due.is("11 whole fee", 7 - 9, post.coins());
        Due.is("11 hour left", 1, post.hoursLeft(0));
        // In the hour of the arrival the seal of letter 0 thaws first.
        Due.is("11 two letters", 2, post.advance(1));
        Due.is("11 half of 25 rounded down", 7 - 9 + 12 + 30, post.coins());
        Due.is("11 by accounts", 40, post.coinsByAccounts());
        Due.is("11 total", 3, post.deliveredTotal());
        Due.is("11 others stay", 2, post.letterCount());
        Due.is("11 the order of ids stays", 2, post.letterAt(0));
        Due.is("11 on the sledge still", "0:2/30@1#2", Posts.sledge(post, 0));
        Due.fails("11 not in the post any more", ELEMENT, () -> post.feeOf(0));
        Due.is("11 the next id", 5, post.post(0, 1, 1, 1, 1));
        Due.is("11 not delivered twice", 0, post.advance(1));
        post.send(0, 2);
        Due.is("11 later", 1, post.advance(48));
    }

    private static void refusedCallsChangeNothing() {
        SledgePost post = Posts.inARow();
        post.addSledge(0, 5);
        post.post(0, 4, 6, 1, 1);
        post.save();
        post.restore();
        String before = Posts.picture(post);
        Due.fails("refused road", ARGUMENT, () -> post.setRoad(0, 1, 21));
        Due.fails("refused sledge", ARGUMENT, () -> post.addSledge(0, 31));
        Due.fails("refused letter", ARGUMENT, () -> post.post(0, 1, 1, 1, 0));
        Due.fails("refused load", UNSUPPORTED, () -> post.load(0, 0));
        Due.fails("refused unload", STATE, () -> post.unload(0, 0));
        Due.fails("refused best load", INDEX, () -> post.loadBest(1));
        Due.fails("refused journey", UNSUPPORTED, () -> post.send(0, 4));
        Due.fails("refused temperature", ARGUMENT, () -> post.setTemperature(99));
        Due.fails("refused hours", ARGUMENT, () -> post.advance(49));
        Due.is("refused calls change nothing", before, Posts.picture(post));
        Due.fails("refused calls are no changes", ELEMENT, post::undo);
    }
}
