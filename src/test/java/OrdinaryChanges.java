/** Ordinary sentences of the promises 2 to 11: the changes. */
final class OrdinaryChanges {
    private static final String LOAD_AFTER = "Returns the load of the sledge after the call.";
    private static final String THE_SLEDGE = "- `sledge`: the index of the sledge";
    private static final String THE_STATION = "- `station`: the index of the station";
    private static final String THE_LETTER = "- `letter`: the id of the letter";

    private OrdinaryChanges() {
    }

    static void run() {
        Sentence.each(
                OrdinaryChanges::addStation,
                OrdinaryChanges::setRoad,
                OrdinaryChanges::addSledge,
                OrdinaryChanges::post,
                OrdinaryChanges::load,
                OrdinaryChanges::unload,
                OrdinaryChanges::loadBest,
                OrdinaryChanges::send,
                OrdinaryChanges::setTemperature,
                OrdinaryChanges::advance);
    }

    private static void addStation() {
        Sentence.of(2, "Returns the index of the station.");
        SledgePost post = Scenes.town();
        Due.is("the seventh", 6, post.addStation());
        post.setRoad(6, 5, 3);
        Due.is("a road to it", 3, post.road(5, 6));
    }

    private static void setRoad() {
        Sentence.of(3, "Sets the length of the road between two stations.");
        SledgePost post = Scenes.town();
        post.setRoad(5, 2, 13);
        Due.is("there", 13, post.road(5, 2));
        Due.is("back", 13, post.road(2, 5));
        Due.is("the other roads", 6, post.road(1, 2));
        Due.is("the way by it", 15, post.distance(5, 3));
        Sentence.of(3, "- `first`: one station");
        post.setRoad(4, 2, 8);
        Due.is("of this station", 8, post.road(4, 2));
        Due.is("the other one's", 13, post.road(5, 2));
        Sentence.of(3, "- `second`: the other station");
        post.setRoad(5, 1, 17);
        Due.is("to this station", 17, post.road(5, 1));
        Due.is("to the other one", 13, post.road(5, 2));
    }

    private static void addSledge() {
        SledgePost post = Posts.inARow();
        Sentence.of(4, "Returns the index of the sledge.");
        Due.is("the first", 0, post.addSledge(3, 17));
        Due.is("the second", 1, post.addSledge(1, 24));
        Sentence.of(4, "- `station`: the index of the station");
        Due.is("of the first", 3, post.stationOfSledge(0));
        Due.is("of the second", 1, post.stationOfSledge(1));
        Sentence.of(4, "- `capacity`: the capacity");
        Due.is("of the first", 17, post.capacity(0));
        Due.is("of the second", 24, post.capacity(1));
    }

    private static void post() {
        SledgePost post = Scenes.town();
        Sentence.of(5, "Returns the id of the letter.");
        Due.is("the seventh", 6, post.post(4, 2, 9, 58, 77));
        Sentence.of(5, "Posts a letter, which waits in a station.");
        Due.is("one more", 7, post.letterCount());
        Due.fails("on no sledge", Due.ELEMENT, () -> post.sledgeOf(6));
        Sentence.of(5, "- `from`: the station in which it waits");
        Due.is("there", 4, post.stationOfLetter(6));
        Due.is("and counted there", 1, post.waitingIn(4));
        Sentence.of(5, "- `to`: its destination");
        Due.is("there", 2, post.destinationOf(6));
        Sentence.of(5, "- `weight`: the weight");
        Due.is("so much", 9, post.weightOf(6));
        Sentence.of(5, "- `fee`: the fee");
        Due.is("so much", 58, post.feeOf(6));
        Sentence.of(5, "- `strength`: the strength of its seal");
        Due.is("so much", "6>2 9g58c77/77", Posts.letter(post, 6));
    }

    private static void load() {
        SledgePost post = Scenes.town();
        Sentence.of(6, LOAD_AFTER);
        Due.is("5 and 6", 11, post.load(0, 4));
        Due.is("2", 2, post.load(2, 3));
        Sentence.of(6, "Loads a letter onto a sledge.");
        Due.is("in the order of ids", "0:11/20@1#1#4", Posts.sledge(post, 0));
        Due.is("none there any more", 0, post.waitingIn(3));
        Sentence.of(6, THE_SLEDGE);
        Due.is("on this one", 2, post.sledgeOf(3));
        Due.is("not on the other", 2, post.lettersOn(0));
        Sentence.of(6, THE_LETTER);
        Due.is("this one", 0, post.sledgeOf(4));
        Due.is("not the other", 1, post.stationOfLetter(2));
    }

    private static void unload() {
        SledgePost post = Scenes.town();
        post.load(0, 4);
        post.load(2, 3);
        Sentence.of(7, LOAD_AFTER);
        Due.is("6", 6, post.unload(0, 1));
        Sentence.of(7, "Unloads a letter from a sledge; it waits in the station of the sledge then.");
        Due.is("where it was loaded", 1, post.stationOfLetter(1));
        post.send(2, 2);
        post.advance(2);
        Due.is("none is left", 0, post.unload(2, 3));
        Due.is("where it has come to", 2, post.stationOfLetter(3));
        Due.is("and counted there", 1, post.waitingIn(2));
        Sentence.of(7, THE_SLEDGE);
        Due.is("this one", "2:0/30@2", Posts.sledge(post, 2));
        Due.is("not the other", "0:6/20@1#4", Posts.sledge(post, 0));
        Sentence.of(7, THE_LETTER);
        post.load(0, 1);
        post.unload(0, 4);
        Due.is("this one", 1, post.stationOfLetter(4));
        Due.is("not the other", 0, post.sledgeOf(1));
    }

    private static void loadBest() {
        SledgePost post = Scenes.town();
        Sentence.of(8, "Returns the number of letters that are loaded.");
        Due.is("two more", 2, post.loadBest(0));
        Sentence.of(8, "Loads the best load onto a sledge, in addition to the letters on it.");
        Due.is("three", "0:19/20@1#1#2#4", Posts.sledge(post, 0));
        Due.is("none waits any more", 0, post.waitingIn(1));
        Sentence.of(8, THE_SLEDGE);
        Due.is("one there", 1, post.loadBest(2));
        Due.is("on this one", "2:2/30@3#3", Posts.sledge(post, 2));
    }

    private static void send() {
        SledgePost post = Scenes.town();
        Sentence.of(9, "Returns the number of hours for which it travels.");
        Due.is("over two roads", 8, post.send(0, 3));
        Sentence.of(9, "Sends a sledge to a station.");
        Due.is("on its way", "0:5/20>3+8#1", Posts.sledge(post, 0));
        Due.is("the toll", -18, post.coins());
        Due.is("no hour has passed", 4, post.time());
        Sentence.of(9, THE_SLEDGE);
        post.send(2, 0);
        Due.is("that one", 9, post.hoursLeft(2));
        Due.is("not the other", 8, post.hoursLeft(0));
        Sentence.of(9, THE_STATION);
        Due.is("there", 0, post.stationOfSledge(2));
        Due.is("as it was sent", 3, post.stationOfSledge(0));
    }

    private static void setTemperature() {
        SledgePost post = Scenes.town();
        Sentence.of(10, "Returns the previous temperature.");
        Due.is("as it was", 3, post.setTemperature(-7));
        Due.is("as it was since", -7, post.setTemperature(5));
        Sentence.of(10, "Sets the temperature.");
        Due.is("as it is", 5, post.temperature());
        Due.is("no ice thaws yet", 17, post.iceOf(1));
        post.advance(2);
        Due.is("it thaws by it", 7, post.iceOf(1));
        Sentence.of(10, "- `degrees`: the temperature");
        post.setTemperature(-2);
        Due.is("as it is now", -2, post.temperature());
        post.advance(4);
        Due.is("it freezes by 1 in an hour", 11, post.iceOf(1));
    }

    private static void advance() {
        SledgePost post = Scenes.town();
        Sentence.of(11, "Lets time pass.");
        post.advance(1);
        Due.is("the time", 5, post.time());
        Due.is("the seals thaw", 14, post.iceOf(1));
        Due.is("the sledges travel", 5, post.hoursLeft(1));
        Due.is("the others stand", 0, post.hoursLeft(2));
        Sentence.of(11, "- `hours`: the number of hours");
        post.advance(3);
        Due.is("the time", 8, post.time());
        Due.is("the seals thaw", 5, post.iceOf(1));
        Due.is("the sledges travel", 2, post.hoursLeft(1));
        Sentence.of(11, "Returns the number of letters that are delivered in these hours.");
        Due.is("the letter 0", 1, post.advance(2));
        post.send(1, 3);
        Due.is("not yet the letter 5", 0, post.advance(1));
        Due.is("the letter 5", 1, post.advance(1));
    }
}
