/** Boundary sentences of the promises 43 to 53: totals, checks and the output text. */
final class BoundariesOfTotals {
    private static final String NO_LETTERS = "Throws `ArithmeticException` if there are no letters in the post";

    private BoundariesOfTotals() {
    }

    static void run() {
        Sentence.each(
                BoundariesOfTotals::timeFromNought,
                BoundariesOfTotals::temperatureAtFirst,
                BoundariesOfTotals::coinsAtFirst,
                BoundariesOfTotals::negativeCoins,
                BoundariesOfTotals::sameByAccounts,
                BoundariesOfTotals::deliveredSoFar,
                () -> withoutLetters(48, SledgePost::meanIce),
                () -> withoutLetters(49, SledgePost::openShare),
                BoundariesOfTotals::meanOfOneAndTwelve,
                BoundariesOfTotals::shareOfOneAndTwelve,
                BoundariesOfTotals::consistent,
                BoundariesOfTotals::consistentWithoutTrip,
                BoundariesOfTotals::sledgeThatTravelsOrStands,
                BoundariesOfTotals::sledgeWithoutIndex,
                BoundariesOfTotals::leastAndMostOfLetter,
                BoundariesOfTotals::letterWithoutId,
                BoundariesOfTotals::emptyOutput,
                BoundariesOfTotals::noIndexOfOutput,
                BoundariesOfTotals::replacedOutput);
    }

    private static void timeFromNought() {
        Sentence.ofTerms(43, "Time is counted in hours from 0");
        SledgePost post = new SledgePost();
        Due.is("at first", 0, post.time());
        Due.fails("refused", Due.ARGUMENT, () -> post.advance(0));
        Due.fails("refused", Due.ARGUMENT, () -> post.advance(49));
        Due.is("no hour by refused calls", 0, post.time());
        post.advance(48);
        Due.is("two days", 48, post.time());
    }

    private static void temperatureAtFirst() {
        Sentence.ofTerms(44, "the temperature is from -30 to 10 degrees, initially 0.");
        SledgePost post = new SledgePost();
        Due.is("at first", 0, post.temperature());
        Due.fails("refused", Due.ARGUMENT, () -> post.setTemperature(11));
        Due.is("not by a refused call", 0, post.temperature());
        post.setTemperature(-30);
        Due.fails("refused", Due.ARGUMENT, () -> post.setTemperature(-31));
        Due.is("the coldest", -30, post.temperature());
    }

    private static void coinsAtFirst() {
        Sentence.of(45, "Returns the coins of the post, 0 initially");
        SledgePost post = new SledgePost();
        Due.is("new", 0, post.coins());
        post.addStation();
        post.addStation();
        post.post(0, 1, 1, 99, 1);
        post.advance(48);
        Due.is("nothing sent, nothing delivered", 0, post.coins());
    }

    private static SledgePost twoTolls() {
        SledgePost post = Posts.inARow();
        post.addSledge(0, 9);
        post.addSledge(0, 9);
        post.send(0, 1);
        post.send(1, 3);
        return post;
    }

    private static void negativeCoins() {
        Sentence.of(45, "Returns the number of coins, which can be negative.");
        SledgePost post = twoTolls();
        Due.is("two tolls", -17, post.coins());
        post.advance(12);
        post.send(0, 0);
        Due.is("three tolls", -22, post.coins());
    }

    private static void sameByAccounts() {
        Sentence.of(46, "Returns the same number, computed from the sums of all fees");
        Due.is("new", 0, new SledgePost().coinsByAccounts());
        SledgePost post = twoTolls();
        Due.is("two tolls", -17, post.coinsByAccounts());
        SledgePost busy = Scenes.busy();
        Due.is("a fee and two tolls", 9 - 3 - 7, busy.coinsByAccounts());
        Due.is("both", busy.coins(), busy.coinsByAccounts());
    }

    private static void deliveredSoFar() {
        Sentence.of(47, "Returns the number of letters that have been delivered so far.");
        SledgePost post = Posts.inARow();
        Due.is("none", 0, post.deliveredTotal());
        post.addSledge(0, 30);
        for (int round = 1; round <= 4; round++) {
            for (int i = 0; i < 12; i++) {
                post.post(1 - round % 2, round % 2, 1, 1, 1);
            }
            post.loadBest(0);
            post.send(0, round % 2);
            post.advance(4);
            Due.is("before the last hour", 12 * round - 12, post.deliveredTotal());
            post.advance(1);
            Due.is("after " + round, 12 * round, post.deliveredTotal());
        }
    }

    private static SledgePost allDelivered() {
        SledgePost post = Posts.inARow();
        post.addSledge(0, 9);
        post.post(0, 1, 1, 1, 1);
        post.load(0, 0);
        post.send(0, 1);
        post.advance(5);
        return post;
    }

    private static void withoutLetters(int promise, Refusal.Act question) {
        Sentence.of(promise, NO_LETTERS);
        Refusal.of("in a new post", Due.ARITHMETIC, Scenes::fresh, question);
        Refusal.of("all delivered", Due.ARITHMETIC, BoundariesOfTotals::allDelivered, question);
        SledgePost post = allDelivered();
        post.undo();
        Due.is("one letter", true, question.on(post) instanceof Number);
    }

    private static void meanOfOneAndTwelve() {
        Sentence.of(48, "the sum divided by their number, both converted to double.");
        SledgePost post = Posts.withStations(2);
        post.post(0, 1, 1, 1, 99);
        Due.is("one letter", 99.0, post.meanIce());
        post.post(0, 1, 1, 1, 98);
        Due.is("not rounded", 98.5, post.meanIce());
        post.post(0, 1, 1, 1, 3);
        Due.is("as exactly as a double can", 200.0 / 3.0, post.meanIce());
        for (int i = 3; i < 12; i++) {
            post.post(0, 1, 1, 1, i);
        }
        Due.is("twelve letters", 263.0 / 12.0, post.meanIce());
        post.setTemperature(10);
        post.advance(10);
        Due.is("no ice", 0.0, post.meanIce());
    }

    private static void shareOfOneAndTwelve() {
        Sentence.of(49, "Returns the share of the letters in the post that are open, both numbers converted to float.");
        SledgePost post = Posts.withStations(2);
        post.post(0, 1, 1, 1, 1);
        Due.is("none of one", 0.0f, post.openShare());
        for (int strength = 2; strength <= 12; strength++) {
            post.post(0, 1, 1, 1, strength);
        }
        post.setTemperature(1);
        for (int hour = 1; hour <= 12; hour++) {
            post.advance(1);
            Due.is(hour + " of twelve", (float) hour / 12.0f, post.openShare());
        }
    }

    private static void consistent() {
        Sentence.of(50, "Returns true if all of this holds.");
        Due.is("new", true, new SledgePost().isConsistent());
        Due.is("busy", true, Scenes.busy().isConsistent());
        Due.is("full", true, Scenes.full().isConsistent());
        SledgePost full = Posts.withStations(2);
        full.setRoad(0, 1, 20);
        full.addSledge(0, 30);
        for (int i = 0; i < 12; i++) {
            full.post(0, 1, i < 9 ? 2 : 4, 99, 1);
        }
        Due.is("twelve wait", true, full.isConsistent());
        full.loadBest(0);
        Due.is("twelve on a full sledge", true, full.isConsistent());
        full.send(0, 1);
        Due.is("on the way", true, full.isConsistent());
        full.advance(20);
        Due.is("all delivered", true, full.isConsistent());
    }

    private static void consistentWithoutTrip() {
        Sentence.of(50, "both ways to find the distance agree or find none, for all sledges that stand both ways to find "
                + "the best load and, if it exists, the round trip agree");
        Due.is("no roads at all", true, Posts.withStations(7).isConsistent());
        SledgePost post = Posts.inARow();
        post.addSledge(0, 9);
        post.post(0, 4, 9, 1, 1);
        post.load(0, 0);
        Due.fails("there is no trip", Due.ELEMENT, () -> post.roundTrip(0));
        Due.is("no trip to agree about", true, post.isConsistent());
        post.post(0, 1, 1, 1, 1);
        post.addSledge(0, 9);
        post.load(1, 1);
        post.send(1, 1);
        post.setRoad(0, 1, 0);
        Due.is("one travels where no road is any more", true, post.isConsistent());
    }

    private static void sledgeThatTravelsOrStands() {
        Sentence.of(51, "\"@\" and its station or \">\", its station, \"+\" and the hours left if it travels, "
                + "and \"#\" and the id");
        SledgePost post = Scenes.full();
        Due.is("stands", "0:4/10@0#0", Posts.sledge(post, 0));
        Due.is("travels", "1:9/30>1+5#4", Posts.sledge(post, 1));
        Due.is("empty", "2:0/5@0", Posts.sledge(post, 2));
        post.advance(4);
        Due.is("in the last hour", "1:9/30>1+1#4", Posts.sledge(post, 1));
        post.advance(1);
        Due.is("there", "1:9/30@1#4", Posts.sledge(post, 1));
        SledgePost most = Posts.inARow();
        most.addSledge(3, 30);
        for (int i = 0; i < 12; i++) {
            most.post(3, 0, 2, 1, 1);
        }
        most.loadBest(0);
        most.send(0, 0);
        Due.is("twelve", "0:24/30>0+12#0#1#2#3#4#5#6#7#8#9#10#11", Posts.sledge(most, 0));
        Due.is("its length", 38, most.renderSledge(0));
    }

    private static void sledgeWithoutIndex() {
        Sentence.of(51, "Throws `IndexOutOfBoundsException` if there is no such sledge");
        Refusal.ofEach("sledge", Due.INDEX, Scenes::busy, Refusal.outside(2), SledgePost::renderSledge);
        Refusal.of("beyond the third", Due.INDEX, Scenes::full, post -> post.renderSledge(3));
        Refusal.of("in a new post", Due.INDEX, Scenes::fresh, post -> post.renderSledge(0));
    }

    private static void leastAndMostOfLetter() {
        Sentence.of(52, "its id, \">\" and its destination, \" \", its weight, \"g\", its fee, \"c\", and its ice");
        SledgePost post = Posts.withStations(7);
        post.post(1, 0, 1, 0, 1);
        for (int i = 1; i < 12; i++) {
            post.post(0, 6, 9, 99, 99);
        }
        Due.is("the least", "0>0 1g0c1/1", Posts.letter(post, 0));
        Due.is("the most", "11>6 9g99c99/99", Posts.letter(post, 11));
        Due.is("its length", 15, post.renderLetter(11));
        post.setTemperature(10);
        post.advance(1);
        Due.is("open", "0>0 1g0c0/1", Posts.letter(post, 0));
        Due.is("its length", 11, post.renderLetter(0));
    }

    private static void letterWithoutId() {
        Sentence.of(52, "Throws `NoSuchElementException` if there is no such letter in the post");
        int[] none = {3, 6, -1, 256, 65536, Integer.MIN_VALUE, Integer.MAX_VALUE};
        Refusal.ofEach("letter", Due.ELEMENT, Scenes::busy, none, SledgePost::renderLetter);
        Refusal.of("in a new post", Due.ELEMENT, Scenes::fresh, post -> post.renderLetter(0));
    }

    private static void emptyOutput() {
        Sentence.of(53, "Returns a character of the output text, which is empty initially.");
        SledgePost post = new SledgePost();
        Due.fails("no first character", Due.INDEX, () -> post.outputAt(0));
        Due.fails("nothing rendered", Due.INDEX, () -> post.renderSledge(0));
        Due.fails("still none", Due.INDEX, () -> post.outputAt(0));
        Posts.type(post, "wait");
        Due.fails("what is typed is not output", Due.INDEX, () -> post.outputAt(0));
    }

    private static void noIndexOfOutput() {
        Sentence.of(53, "Throws `IndexOutOfBoundsException` if there is no such index");
        // The text is 2>3 7g25c25/30.
        Refusal.ofEach("index", Due.INDEX, Scenes::busy, Refusal.outside(14), SledgePost::outputAt);
        Refusal.ofEach("of nothing", Due.INDEX, Scenes::fresh, Refusal.outside(0), SledgePost::outputAt);
        Due.is("the first", '2', Scenes.busy().outputAt(0));
        Due.is("the last", '0', Scenes.busy().outputAt(13));
    }

    private static void replacedOutput() {
        Sentence.of(53, "Returns the character.");
        SledgePost post = Scenes.full();
        Due.is("the longer text", 14, post.renderLetter(2));
        Due.is("the shorter text", 7, post.renderSledge(2));
        Due.is("its last character", '0', post.outputAt(6));
        Due.fails("nothing of the longer one is left", Due.INDEX, () -> post.outputAt(7));
        Due.fails("nor its last character", Due.INDEX, () -> post.outputAt(13));
        Due.is("longer again", 12, post.renderSledge(1));
        Due.is("to its last character", '4', post.outputAt(11));
    }
}
