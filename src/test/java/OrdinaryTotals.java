/** Ordinary sentences of the promises 43 to 49: totals. */
final class OrdinaryTotals {
    private OrdinaryTotals() {
    }

    static void run() {
        Sentence.each(
                OrdinaryTotals::time,
                OrdinaryTotals::temperature,
                OrdinaryTotals::coinsByAccounts,
                OrdinaryTotals::deliveredTotal,
                OrdinaryTotals::meanIce,
                OrdinaryTotals::openShare);
    }

    private static void time() {
        Sentence.of(43, "Returns the time.");
        SledgePost post = Scenes.town();
        Due.is("after four hours", 4, post.time());
        Sentence.of(43, "Returns the number of hours.");
        post.advance(48);
        Due.is("they add up", 52, post.time());
    }

    private static void temperature() {
        Sentence.of(44, "Returns the temperature.");
        SledgePost post = Scenes.town();
        Due.is("as it was set", 3, post.temperature());
        Sentence.of(44, "Returns the temperature in degrees.");
        post.setTemperature(-16);
        post.advance(3);
        Due.is("it stays as it is", -16, post.temperature());
    }

    private static void coinsByAccounts() {
        Sentence.of(46, "computed from the sums of all fees that the post has got and of all tolls that it has paid.");
        SledgePost post = Scenes.town();
        Due.is("a toll", -10, post.coinsByAccounts());
        post.setTemperature(-1);
        post.advance(6);
        Due.is("and a fee", 41 - 10, post.coinsByAccounts());
        post.send(1, 3);
        Due.is("and one more toll", 41 - 12, post.coinsByAccounts());
        post.setTemperature(10);
        post.advance(4);
        Due.is("and one more fee", 25 + 41 - 12, post.coinsByAccounts());
        Sentence.of(46, "Returns the number of coins.");
        Due.is("the same", post.coins(), post.coinsByAccounts());
        post.loadBest(0);
        post.send(0, 4);
        post.advance(15);
        Due.is("half a fee of 33, less a toll of 15", 54 + 16 - 15, post.coinsByAccounts());
    }

    private static void deliveredTotal() {
        Sentence.of(47, "Returns the number of letters that have been delivered so far.");
        SledgePost post = Scenes.town();
        Due.is("none yet", 0, post.deliveredTotal());
        post.advance(6);
        Due.is("the first", 1, post.deliveredTotal());
        Sentence.of(47, "Returns the number of letters.");
        post.send(1, 3);
        post.advance(2);
        Due.is("one more", 2, post.deliveredTotal());
        post.advance(2);
        Due.is("no more", 2, post.deliveredTotal());
    }

    private static void meanIce() {
        Sentence.of(48, "the sum divided by their number, both converted to double.");
        SledgePost post = Scenes.town();
        Due.is("of six letters", 115.0 / 6.0, post.meanIce());
        Sentence.of(48, "Returns the mean ice.");
        post.advance(1);
        // The letter 0 has 2 units more to lose, the open one none.
        Due.is("an hour later", 100.0 / 6.0, post.meanIce());
    }

    private static void openShare() {
        Sentence.of(49, "Returns the share of the letters in the post that are open, both numbers converted to float.");
        SledgePost post = Scenes.town();
        Due.is("one of six", 1f / 6f, post.openShare());
        Sentence.of(49, "Returns the share.");
        post.advance(2);
        Due.is("two of six", 2f / 6f, post.openShare());
    }
}
