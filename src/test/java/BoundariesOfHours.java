/** Boundary sentences of the promises 10 and 11: the temperature, and the hours that pass. */
final class BoundariesOfHours {
    private BoundariesOfHours() {
    }

    static void run() {
        Sentence.each(
                BoundariesOfHours::limitsOfTemperature,
                BoundariesOfHours::tooColdOrTooWarm,
                BoundariesOfHours::tooFewOrTooManyHours,
                BoundariesOfHours::noneDelivered,
                BoundariesOfHours::timePasses,
                BoundariesOfHours::thaw,
                BoundariesOfHours::frost,
                BoundariesOfHours::neither,
                BoundariesOfHours::thawBeforeArrival,
                BoundariesOfHours::frostBeforeArrival,
                BoundariesOfHours::lastHourOfJourney,
                BoundariesOfHours::delivered,
                BoundariesOfHours::feeOrHalf,
                BoundariesOfHours::halfRoundedDown);
    }

    private static void limitsOfTemperature() {
        Sentence.ofTerms(10, "the temperature is from -30 to 10 degrees, initially 0.");
        SledgePost post = new SledgePost();
        Due.is("initially", 0, post.temperature());
        Due.is("previous", 0, post.setTemperature(-30));
        Due.is("the coldest", -30, post.temperature());
        Due.is("previous", -30, post.setTemperature(10));
        Due.is("the warmest", 10, post.temperature());
    }

    private static void tooColdOrTooWarm() {
        Sentence.of(10, "Throws `IllegalArgumentException` if the temperature is not between -30 and 10");
        Refusal.ofEach("degrees", Due.ARGUMENT, Scenes::busy, Refusal.beyond(-30, 10), SledgePost::setTemperature);
        for (int degrees : new int[] {-30, -29, -1, 0, 1, 9, 10}) {
            SledgePost post = Scenes.busy();
            Due.is("previous", 1, post.setTemperature(degrees));
            Due.is("degrees", degrees, post.temperature());
        }
    }

    private static void tooFewOrTooManyHours() {
        Sentence.of(11, "Throws `IllegalArgumentException` if the number of hours is not between 1 and 48");
        Refusal.ofEach("hours", Due.ARGUMENT, Scenes::busy, Refusal.beyond(1, 48), SledgePost::advance);
        for (int hours : new int[] {1, 2, 47, 48}) {
            SledgePost post = Scenes.busy();
            int before = post.time();
            post.advance(hours);
            Due.is("time after " + hours, before + hours, post.time());
        }
    }

    private static void noneDelivered() {
        Sentence.of(11, "Returns the number of letters that are delivered in these hours.");
        Due.is("in an empty post", 0, new SledgePost().advance(48));
        SledgePost post = Posts.inARow();
        post.addSledge(0, 30);
        post.addSledge(2, 30);
        for (int i = 0; i < 12; i++) {
            post.post(i < 6 ? 0 : 2, 1, 1, 1, 1);
        }
        post.loadBest(0);
        post.loadBest(1);
        post.send(0, 1);
        post.send(1, 1);
        Due.is("before they come", 0, post.advance(3));
        Due.is("in different hours", 12, post.advance(2));
        Due.is("not again", 0, post.advance(48));
        Due.is("all of them", 12, post.deliveredTotal());
    }

    private static void timePasses() {
        Sentence.ofTerms(11, "In one hour, the time increases by 1");
        SledgePost post = new SledgePost();
        post.advance(1);
        Due.is("one hour", 1, post.time());
        for (int i = 0; i < 400; i++) {
            post.advance(48);
        }
        Due.is("many hours", 1 + 400 * 48, post.time());
    }

    /** A post with letters of these strengths that wait. */
    private static SledgePost sealed(int... strengths) {
        SledgePost post = Posts.inARow();
        post.addSledge(0, 30);
        for (int strength : strengths) {
            post.post(0, 1, 1, 10, strength);
        }
        return post;
    }

    private static void ice(String what, SledgePost post, int... due) {
        for (int letter = 0; letter < due.length; letter++) {
            Due.is(what + " of letter " + letter, due[letter], post.iceOf(letter));
        }
    }

    private static void thaw() {
        Sentence.ofTerms(11, "the ice of each letter decreases by as many units as there are degrees, but not below 0");
        SledgePost post = sealed(1, 9, 10, 11, 20, 99);
        post.load(0, 1);
        post.load(0, 5);
        post.send(0, 3);
        post.setTemperature(10);
        post.advance(1);
        ice("after an hour at 10", post, 0, 0, 0, 1, 10, 89);
        post.advance(1);
        ice("after two hours at 10", post, 0, 0, 0, 0, 0, 79);
        post.setTemperature(1);
        post.advance(1);
        ice("after an hour at 1", post, 0, 0, 0, 0, 0, 78);
        post.advance(48);
        ice("after two days", post, 0, 0, 0, 0, 0, 30);
        post.advance(30);
        ice("after all", post, 0, 0, 0, 0, 0, 0);
    }

    private static void frost() {
        Sentence.ofTerms(11, "the ice of each letter that is not open increases by 1, but not beyond its strength");
        SledgePost post = sealed(1, 5, 12, 99);
        post.load(0, 2);
        post.send(0, 3);
        post.setTemperature(-30);
        post.advance(48);
        ice("all of its strength", post, 1, 5, 12, 99);
        post.setTemperature(5);
        post.advance(1);
        ice("after an hour at 5", post, 0, 0, 7, 94);
        post.setTemperature(-30);
        post.advance(1);
        ice("by 1 at -30", post, 0, 0, 8, 95);
        post.setTemperature(-1);
        post.advance(1);
        ice("by 1 at -1", post, 0, 0, 9, 96);
        post.advance(3);
        ice("up to its strength", post, 0, 0, 12, 99);
        post.advance(1);
        ice("not beyond it", post, 0, 0, 12, 99);
    }

    private static void neither() {
        Sentence.ofTerms(11, "if the temperature is above 0");
        SledgePost post = sealed(1, 5, 99);
        post.advance(48);
        ice("at 0", post, 1, 5, 99);
        post.setTemperature(1);
        post.advance(1);
        ice("at 1", post, 0, 4, 98);
        post.setTemperature(0);
        post.advance(48);
        ice("at 0 again", post, 0, 4, 98);
    }

    private static void thawBeforeArrival() {
        Sentence.ofTerms(11, "then the sledges that travel are visited in the order of their indices.");
        SledgePost post = sealed(4, 5, 6);
        post.loadBest(0);
        post.setTemperature(1);
        post.send(0, 1);
        post.advance(4);
        ice("an hour before", post, 0, 1, 2);
        Due.is("all come", 3, post.advance(1));
        Due.is("the second one opens in the hour of its arrival", -5 + 5 + 5 + 10, post.coins());
    }

    private static void frostBeforeArrival() {
        Sentence.ofTerms(11, "and if the temperature is below 0");
        SledgePost post = sealed(3, 2);
        post.loadBest(0);
        post.setTemperature(2);
        post.advance(1);
        post.setTemperature(-1);
        post.send(0, 1);
        post.advance(4);
        ice("frozen again, and open", post, 3, 0);
        post.advance(1);
        Due.is("whole fee, and half", -5 + 10 + 5, post.coins());
    }

    private static void lastHourOfJourney() {
        Sentence.ofTerms(11, "A sledge that has travelled for all of its hours comes to its station and stands there");
        SledgePost post = sealed(9);
        post.addSledge(2, 9);
        post.send(0, 1);
        post.send(1, 3);
        post.advance(2);
        Due.is("one hour before", true, post.isTravelling(1));
        post.advance(1);
        Due.is("the one with 3 hours is there", false, post.isTravelling(1));
        Due.is("no hours left", 0, post.hoursLeft(1));
        Due.is("the other one travels", true, post.isTravelling(0));
        Due.is("with 2 hours left", 2, post.hoursLeft(0));
        post.advance(48);
        Due.is("long after", 0, post.hoursLeft(0));
        Due.is("it still stands there", "0:0/30@1", Posts.sledge(post, 0));
        Due.is("and can go on", 4, post.send(0, 2));
        SledgePost one = Posts.withStations(2);
        one.setRoad(0, 1, 1);
        one.addSledge(0, 9);
        one.send(0, 1);
        one.advance(1);
        Due.is("a journey of one hour", "0:0/9@1", Posts.sledge(one, 0));
    }

    private static void delivered() {
        Sentence.ofTerms(11, "the letters on it with this destination are delivered and are not in the post any more.");
        SledgePost post = Posts.inARow();
        post.addSledge(0, 30);
        post.addSledge(0, 30);
        post.post(0, 1, 1, 1, 9);
        post.post(0, 2, 1, 1, 9);
        post.post(0, 1, 1, 1, 9);
        post.post(2, 1, 1, 1, 9);
        post.post(0, 1, 1, 1, 9);
        post.load(0, 0);
        post.load(0, 1);
        post.load(0, 2);
        post.load(1, 4);
        post.send(0, 1);
        Due.is("the two on it", 2, post.advance(5));
        Due.fails("the first one is gone", Due.ELEMENT, () -> post.weightOf(0));
        Due.fails("the third one is gone", Due.ELEMENT, () -> post.weightOf(2));
        Due.is("the one with another destination stays on it", 0, post.sledgeOf(1));
        Due.is("the one that waits stays", 2, post.stationOfLetter(3));
        Due.is("the one on the other sledge stays", 1, post.sledgeOf(4));
        Due.is("three are left", 3, post.letterCount());
        Due.is("the load is less", 1, post.loadOf(0));
        post.send(0, 3);
        Due.is("none by passing through", 0, post.advance(7));
        Due.is("it is still on it", 0, post.sledgeOf(1));
        post.send(0, 2);
        Due.is("when it comes there", 1, post.advance(3));
    }

    private static int coinsFor(int fee, int strength) {
        SledgePost post = Posts.withStations(2);
        post.setRoad(0, 1, 1);
        post.addSledge(0, 9);
        post.post(0, 1, 1, fee, strength);
        post.load(0, 0);
        post.setTemperature(10);
        post.send(0, 1);
        post.advance(1);
        Due.is("both ways to count", post.coins(), post.coinsByAccounts());
        return post.coins() + 1;
    }

    private static void feeOrHalf() {
        Sentence.ofTerms(11, "For a delivered letter, the post gets its fee, or the half of it if the letter is open.");
        Due.is("ice 1", 98, coinsFor(98, 11));
        Due.is("ice 0", 49, coinsFor(98, 10));
        Due.is("no fee", 0, coinsFor(0, 11));
        Due.is("half of no fee", 0, coinsFor(0, 10));
        Due.is("the greatest fee", 99, coinsFor(99, 99));
    }

    private static void halfRoundedDown() {
        Sentence.ofTerms(11, "All integer divisions round down.");
        Due.is("half of 1", 0, coinsFor(1, 1));
        Due.is("half of 2", 1, coinsFor(2, 1));
        Due.is("half of 3", 1, coinsFor(3, 1));
        Due.is("half of 99", 49, coinsFor(99, 1));
        SledgePost post = sealed(1, 1, 1);
        post.undo();
        post.undo();
        post.post(0, 1, 1, 15, 1);
        post.loadBest(0);
        post.setTemperature(1);
        post.send(0, 1);
        post.advance(5);
        Due.is("of each letter by itself", -5 + 5 + 7, post.coins());
    }
}
