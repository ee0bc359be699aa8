/** Promises 43 to 50: totals and checks. */
public final class TotalsTest {
    private static final Class<ArithmeticException> ARITHMETIC = ArithmeticException.class;

    public static void main(String[] args) {
        weather();
        coins();
        means();
        consistency();
        fullSledge();
        Due.end();
    }

    private static void weather() {
        SledgePost post = new SledgePost();
        Due.is("43 initially", 0, post.time());
        Due.is("44 initially", 0, post.temperature());
        post.advance(7);
        post.advance(48);
        Due.is("43 later", 55, post.time());
        post.setTemperature(-30);
        Due.is("44 cold", -30, post.temperature());
        post.advance(1);
        Due.is("44 stays", -30, post.temperature());
    }

    private static void coins() {
        SledgePost post = Posts.inARow();
        post.addSledge(0, 30);
        post.post(0, 1, 1, 99, 1);
        post.post(0, 1, 1, 45, 10);
        post.post(0, 2, 1, 20, 10);
        Due.is("45 initially", 0, post.coins());
        Due.is("46 initially", 0, post.coinsByAccounts());
        Due.is("47 initially", 0, post.deliveredTotal());
        post.loadBest(0);
        post.setTemperature(1);
        post.send(0, 1);
        Due.is("45 toll when sent", -5, post.coins());
        Due.is("46 toll when sent", -5, post.coinsByAccounts());
        post.advance(4);
        Due.is("47 none yet", 0, post.deliveredTotal());
        post.advance(1);
        Due.is("45 fees", -5 + 49 + 45, post.coins());
        Due.is("46 fees", -5 + 49 + 45, post.coinsByAccounts());
        Due.is("47 two", 2, post.deliveredTotal());
        post.send(0, 2);
        post.advance(4);
        Due.is("45 all", 89 - 4 + 20, post.coins());
        Due.is("46 all", 89 - 4 + 20, post.coinsByAccounts());
        Due.is("47 three", 3, post.deliveredTotal());
    }

    private static void means() {
        SledgePost post = Posts.withStations(2);
        Due.fails("48 none", ARITHMETIC, post::meanIce);
        Due.fails("49 none", ARITHMETIC, post::openShare);
        post.post(0, 1, 1, 1, 3);
        Due.is("48 one", 3.0, post.meanIce());
        Due.is("49 closed", 0.0f, post.openShare());
        post.post(0, 1, 1, 1, 8);
        post.post(0, 1, 1, 1, 9);
        Due.is("48 three", 20.0 / 3.0, post.meanIce());
        post.setTemperature(3);
        post.advance(1);
        Due.is("48 thawed", 11.0 / 3.0, post.meanIce());
        Due.is("49 a third", 1.0f / 3.0f, post.openShare());
        post.advance(2);
        Due.is("48 no ice", 0.0, post.meanIce());
        Due.is("49 all", 1.0f, post.openShare());
    }

    private static SledgePost withLoops() {
        SledgePost post = Posts.withStations(7);
        for (int i = 0; i < 6; i++) {
            post.setRoad(i, (i * 3 + 1) % 6 == i ? 6 : (i * 3 + 1) % 6, i + 3);
        }
        for (int i = 0; i < 3; i++) {
            post.addSledge(i, 10 + 9 * i);
        }
        for (int i = 0; i < 12; i++) {
            post.post(i % 3, 3 + i % 4, 1 + i % 9, 7 * i, 1 + i);
        }
        return post;
    }

    private static void consistency() {
        Due.is("50 new", true, new SledgePost().isConsistent());
        Due.is("50 without roads", true, Posts.withStations(7).isConsistent());
        SledgePost post = withLoops();
        Due.is("50 waiting", true, post.isConsistent());
        Due.is("50 changes nothing", Posts.picture(withLoops()), Posts.picture(post));
        SledgePost sent = withLoops();
        for (int i = 0; i < 3; i++) {
            sent.loadBest(i);
        }
        Due.is("50 loaded", true, sent.isConsistent());
        for (int i = 0; i < 3; i++) {
            int sledge = i;
            Due.outcome(() -> sent.send(sledge, 4));
        }
        Due.is("50 sent", true, sent.isConsistent());
        sent.setRoad(0, 1, 0);
        sent.advance(10);
        Due.is("50 later", true, sent.isConsistent());
    }

    private static void fullSledge() {
        SledgePost post = Posts.withStations(2);
        post.addSledge(0, 9);
        post.post(0, 1, 9, 1, 1);
        post.load(0, 0);
        Due.is("50 full, and no way for it", true, post.isConsistent());
    }
}
