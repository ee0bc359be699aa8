import java.util.List;
import java.util.function.Supplier;

/** Boundary sentences of the promises 58 to 60: undo and the snapshot. */
final class BoundariesOfUndo {
    private static final String COVERED = "Undo and the snapshot cover everything, also the id of the next letter, except the "
            + "script buffer, the error position, the index of the failed command, the output text and the snapshot itself.";

    private BoundariesOfUndo() {
    }

    static void run() {
        Sentence.each(
                BoundariesOfUndo::nothingToUndo,
                BoundariesOfUndo::latestEight,
                BoundariesOfUndo::roundAndRound,
                BoundariesOfUndo::latestFirst,
                BoundariesOfUndo::stillToUndo,
                BoundariesOfUndo::latestNotUndone,
                BoundariesOfUndo::sameStateAfterwards,
                BoundariesOfUndo::onlyCallsThatReturn,
                BoundariesOfUndo::otherCallsAreNoChanges,
                BoundariesOfUndo::undoCovers,
                BoundariesOfUndo::undoCoversEachChange,
                BoundariesOfUndo::undoLeavesTexts,
                BoundariesOfUndo::snapshotOfNoneAndTwelve,
                BoundariesOfUndo::replacesEarlier,
                BoundariesOfUndo::saveIsKeptByUndo,
                BoundariesOfUndo::restoreCovers,
                BoundariesOfUndo::restoreLeavesTexts,
                BoundariesOfUndo::restoredAgain,
                BoundariesOfUndo::nothingToUndoAfterwards,
                BoundariesOfUndo::noSnapshot);
    }

    private static SledgePost allUndone() {
        SledgePost post = new SledgePost();
        post.addStation();
        post.addStation();
        post.undo();
        post.undo();
        return post;
    }

    private static SledgePost restored() {
        SledgePost post = Scenes.busy();
        post.restore();
        return post;
    }

    private static SledgePost onlyRefused() {
        SledgePost post = new SledgePost();
        Due.outcome(() -> post.advance(0));
        Due.outcome(() -> post.setRoad(0, 1, 1));
        Posts.run(post, "wait;best 0");
        Posts.run(post, "wait;");
        post.save();
        post.isConsistent();
        return post;
    }

    private static void nothingToUndo() {
        Sentence.of(58, "Throws `NoSuchElementException` if there is nothing to undo");
        Refusal.of("in a new post", Due.ELEMENT, Scenes::fresh, SledgePost::undo);
        Refusal.of("all undone", Due.ELEMENT, BoundariesOfUndo::allUndone, SledgePost::undo);
        Refusal.of("restored", Due.ELEMENT, BoundariesOfUndo::restored, SledgePost::undo);
        Refusal.of("no call has returned", Due.ELEMENT, BoundariesOfUndo::onlyRefused, SledgePost::undo);
    }

    private static SledgePost advanced(int times) {
        SledgePost post = new SledgePost();
        for (int i = 0; i < times; i++) {
            post.advance(1);
        }
        return post;
    }

    private static void undoesAll(String what, SledgePost post, int count) {
        int time = post.time();
        for (int left = count - 1; left >= 0; left--) {
            Due.is(what + ", left", left, post.undo());
            Due.is(what + ", time with " + left + " left", time - count + left, post.time());
        }
        Due.fails(what + ", no more", Due.ELEMENT, post::undo);
        Due.is(what + ", time at the end", time - count, post.time());
    }

    private static void latestEight() {
        Sentence.ofTerms(58, "The latest 8 changes can be undone");
        for (int changes = 1; changes <= 70; changes++) {
            undoesAll(changes + " changes", advanced(changes), Math.min(8, changes));
        }
        undoesAll("480 changes", advanced(480), 8);
    }

    /** Changes and undos in all mixtures, so that the earlier states wrap around where they are kept. */
    private static void roundAndRound() {
        Sentence.ofTerms(58, "can be undone, the latest one first.");
        for (int undos = 1; undos <= 8; undos++) {
            SledgePost post = advanced(8 + undos);
            for (int round = 0; round < 4; round++) {
                for (int i = 1; i <= undos; i++) {
                    Due.is("left in round " + round, 8 - i, post.undo());
                }
                for (int i = 0; i < undos; i++) {
                    post.advance(1);
                }
            }
            Due.is("time", 8 + undos, post.time());
            undoesAll("after rounds with " + undos, post, 8);
        }
    }

    private static void latestFirst() {
        Sentence.ofTerms(58, "the latest one first.");
        SledgePost post = Posts.withStations(1);
        post.setTemperature(5);
        post.advance(2);
        post.addStation();
        post.undo();
        Due.is("the station", 1, post.stationCount());
        Due.is("not yet the hours", 2, post.time());
        post.undo();
        Due.is("the hours", 0, post.time());
        Due.is("not yet the temperature", 5, post.temperature());
        post.undo();
        Due.is("the temperature", 0, post.temperature());
        post.undo();
        Due.is("the first station", 0, post.stationCount());
    }

    private static void stillToUndo() {
        Sentence.of(58, "Returns the number of changes that can still be undone.");
        Due.is("none", 0, advanced(1).undo());
        Due.is("one", 1, advanced(2).undo());
        Due.is("seven", 7, advanced(8).undo());
        Due.is("seven of nine", 7, advanced(9).undo());
        Due.is("a script counts once", 1, undoAfter(Posts.withStations(1), "wait;wait;wait"));
    }

    private static Object undoAfter(SledgePost post, String script) {
        Posts.run(post, script);
        return Due.outcome(post::undo);
    }

    private static void latestNotUndone() {
        Sentence.of(58, "Undoes the latest change that has not been undone.");
        SledgePost post = advanced(3);
        post.undo();
        post.setTemperature(7);
        Due.is("the new one", 2, post.undo());
        Due.is("temperature", 0, post.temperature());
        Due.is("time", 2, post.time());
        Due.is("then the second, not the third", 1, post.undo());
        Due.is("time before the second", 1, post.time());
        Due.is("then the first", 0, post.undo());
        Due.is("time before the first", 0, post.time());
    }

    private static void sameStateAfterwards() {
        Sentence.ofTerms(58, "that returns normally, even if the state is the same afterwards.");
        Supplier<SledgePost> scene = () -> {
            SledgePost post = Posts.withStations(2);
            post.addSledge(0, 9);
            post.save();
            post.restore();
            return post;
        };
        List<Refusal.Act> acts = List.of(
                post -> post.setRoad(0, 1, 0),
                post -> post.setTemperature(0),
                post -> post.loadBest(0),
                post -> Posts.run(post, "heat 0"),
                post -> Posts.run(post, "best 0;road 10 0"));
        for (int i = 0; i < acts.size(); i++) {
            SledgePost post = scene.get();
            acts.get(i).on(post);
            Due.is("the state is the same after " + i, Posts.picture(scene.get()), Posts.picture(post));
            Due.is("but it can be undone", 0, Due.outcome(post::undo));
            SledgePost many = scene.get();
            many.advance(1);
            for (int times = 0; times < 8; times++) {
                acts.get(i).on(many);
            }
            undoesAllBut(many, 1);
        }
    }

    /** Eight changes that leave the state as it is drop the one before them. */
    private static void undoesAllBut(SledgePost post, int time) {
        for (int left = 7; left >= 0; left--) {
            Due.is("left", left, Due.outcome(post::undo));
        }
        Due.fails("no more", Due.ELEMENT, post::undo);
        Due.is("the change before them stays", time, post.time());
    }

    private static void onlyCallsThatReturn() {
        Sentence.ofTerms(58, "A change is a call of addStation, setRoad, addSledge, post, load, unload, loadBest, send, "
                + "setTemperature, advance or runScript that returns normally");
        List<Refusal.Act> refused = List.of(
                SledgePost::addStation,
                post -> post.setRoad(0, 0, 1),
                post -> post.addSledge(0, 4),
                post -> post.post(0, 0, 1, 1, 1),
                post -> post.load(0, 0),
                post -> post.unload(0, 1),
                post -> post.loadBest(1),
                post -> post.send(0, 0),
                post -> post.setTemperature(11),
                post -> post.advance(49),
                post -> Posts.run(post, "station;heat 11"),
                post -> Posts.run(post, "heat 1;"));
        for (int i = 0; i < refused.size(); i++) {
            SledgePost post = Scenes.full();
            Refusal.Act act = refused.get(i);
            Due.is("refused " + i, true, Due.outcome(() -> act.on(post)) instanceof String);
            Due.is("seven are left after one undo, and " + i + " was none", 7, post.undo());
            Due.is("letters", 11, post.letterCount());
        }
    }

    private static void otherCallsAreNoChanges() {
        Sentence.of(58, "Returns the number of changes");
        SledgePost post = advanced(2);
        post.save();
        Posts.picture(post);
        post.isConsistent();
        Posts.type(post, "wait");
        post.type('x');
        Due.outcome(post::runScript);
        post.save();
        Due.is("one is left", 1, post.undo());
        Due.is("one hour", 1, post.time());
        Due.is("undo is none", 0, post.undo());
        Due.is("no hour", 0, post.time());
    }

    private static void undoCovers() {
        Sentence.ofTerms(58, COVERED);
        SledgePost post = Scenes.busy();
        post.post(0, 1, 1, 1, 1);
        post.undo();
        Due.is("the id of the next letter", 6, post.post(0, 1, 1, 1, 1));
        post.undo();
        Due.is("all as it was", Posts.picture(Scenes.busy()), Posts.picture(post));
        SledgePost delivered = Scenes.busy();
        delivered.undo();
        delivered.undo();
        Due.is("before the second journey", 6, delivered.coins());
        delivered.undo();
        Due.is("before the delivery", 0, delivered.deliveredTotal());
        Due.is("the letter is back", 1, delivered.sledgeOf(3));
        Due.is("its ice", 5, delivered.iceOf(3));
        Due.is("the toll is paid", -3, delivered.coins());
        Due.is("by accounts", -3, delivered.coinsByAccounts());
        Due.is("three hours left", 3, delivered.hoursLeft(1));
    }

    private static void undoCoversEachChange() {
        Sentence.ofTerms(58, "Undo and the snapshot cover everything");
        List<Refusal.Act> acts = List.of(
                SledgePost::addStation,
                post -> post.setRoad(0, 1, 20),
                post -> post.setRoad(0, 4, 1),
                post -> post.addSledge(4, 5),
                post -> post.post(4, 0, 9, 99, 99),
                post -> post.load(0, 1),
                post -> post.unload(0, 0),
                post -> post.loadBest(0),
                post -> post.send(0, 3),
                post -> post.setTemperature(-30),
                post -> post.advance(48),
                post -> Posts.run(post, "t;station;go 01;post 43 2 1 1;heat 9;wait 9"));
        for (int i = 0; i < acts.size(); i++) {
            Refusal.Act act = acts.get(i);
            SledgePost post = Scenes.busy();
            Due.is("change " + i, true, Due.outcome(() -> act.on(post)) instanceof Integer);
            Due.is("change " + i + " is to be seen", false, Posts.picture(Scenes.busy()).equals(Posts.picture(post)));
            Due.is("undone " + i, 7, post.undo());
            Due.is("as before change " + i, Posts.picture(Scenes.busy()), Posts.picture(post));
            Due.is("the next id as before change " + i, 6, Posts.nextId(post));
        }
    }

    private static void undoLeavesTexts() {
        Sentence.ofTerms(58, "except the script buffer, the error position, the index of the failed command, the output text");
        Supplier<SledgePost> scene = () -> {
            SledgePost post = advanced(8);
            post.addStation();
            post.addStation();
            Posts.run(post, "wait;wait;best 9");
            Posts.run(post, "wait;wa!");
            post.addSledge(1, 30);
            post.renderSledge(0);
            Posts.type(post, "wait");
            return post;
        };
        SledgePost post = scene.get();
        for (int left = 7; left >= 0; left--) {
            Due.is("left", left, Due.outcome(post::undo));
        }
        Due.is("the texts stay", "0:0/30@1 error 7 failed 2 typed 5", Posts.texts(post));
    }

    private static SledgePost withLetters(int count) {
        SledgePost post = Posts.withStations(2);
        for (int i = 0; i < count; i++) {
            post.post(0, 1, 1, 1, 1);
        }
        return post;
    }

    private static void snapshotOfNoneAndTwelve() {
        Sentence.of(59, "Returns the number of letters in the post.");
        Due.is("new", 0, new SledgePost().save());
        for (int count : new int[] {0, 1, 11, 12}) {
            SledgePost post = withLetters(count);
            Due.is("letters", count, post.save());
            Due.is("nothing is changed", count, post.letterCount());
        }
    }

    private static void replacesEarlier() {
        Sentence.of(59, "Takes a snapshot, which replaces an earlier one.");
        SledgePost post = withLetters(2);
        post.save();
        post.post(1, 0, 2, 3, 4);
        Due.is("three letters", 3, post.save());
        post.advance(1);
        Due.is("the later one", 3, post.restore());
        Due.is("its letter", "2>0 2g3c4/4", Posts.letter(post, 2));
        SledgePost fewer = withLetters(12);
        fewer.save();
        fewer.undo();
        fewer.undo();
        Due.is("ten letters", 10, fewer.save());
        fewer.addStation();
        Due.is("the later one with fewer letters", 10, fewer.restore());
        Due.is("with its next id", 10, fewer.post(0, 1, 1, 1, 1));
        Due.is("and its stations", 2, fewer.stationCount());
    }

    private static void saveIsKeptByUndo() {
        Sentence.ofTerms(59, "the output text and the snapshot itself.");
        SledgePost post = withLetters(3);
        Due.is("three", 3, post.save());
        Due.is("save is no change", 4, post.undo());
        Due.is("undone back to two", 2, post.letterCount());
        Due.is("the snapshot still has three", 3, post.restore());
        SledgePost first = withLetters(1);
        first.save();
        first.undo();
        first.undo();
        first.undo();
        Due.is("undone to before there was one", 1, first.restore());
        Due.is("both stations", 2, first.stationCount());
    }

    private static void restoreCovers() {
        Sentence.ofTerms(60, COVERED);
        SledgePost post = Scenes.full();
        post.save();
        String saved = Posts.picture(Scenes.full());
        post.advance(7);
        post.loadBest(1);
        post.setTemperature(-3);
        post.send(1, 3);
        post.setRoad(0, 6, 20);
        post.unload(0, 0);
        post.advance(48);
        Due.is("letters", 12, post.restore());
        Due.is("as it was", saved, Posts.picture(post));
        SledgePost ids = Scenes.busy();
        Due.is("of the older snapshot", 6, ids.restore());
        Due.is("its next id", 6, ids.post(0, 1, 1, 1, 1));
        ids.restore();
        ids.save();
        for (int i = 6; i < 12; i++) {
            Due.is("an id", i, ids.post(0, 1, 1, 1, 1));
        }
        ids.restore();
        Due.is("its next id again", 6, ids.post(0, 1, 1, 1, 1));
    }

    private static void restoreLeavesTexts() {
        Sentence.ofTerms(60, "except the script buffer, the error position, the index of the failed command, the output text");
        String texts = Posts.texts(Scenes.busy());
        Due.is("the texts stay", texts, Posts.texts(restored()));
        SledgePost post = new SledgePost();
        post.save();
        Posts.run(post, "x");
        Posts.run(post, "best 0");
        post.restore();
        Due.is("positions that came after the snapshot stay", " error 0 failed 0 typed 1", Posts.texts(post));
    }

    private static void restoredAgain() {
        Sentence.of(60, "Restores the snapshot, which is kept.");
        SledgePost post = withLetters(2);
        post.save();
        for (int round = 0; round < 3; round++) {
            post.post(1, 0, 9, 9, 9);
            post.setTemperature(1);
            post.setRoad(0, 1, 3);
            post.advance(1);
            Due.is("opened", true, post.isOpen(0));
            Due.is("restored", 2, post.restore());
            Due.is("closed", false, post.isOpen(0));
            Due.is("no road", 0, post.road(0, 1));
            Due.is("time", 0, post.time());
            Due.fails("no third letter", Due.ELEMENT, () -> post.feeOf(2));
        }
    }

    private static void nothingToUndoAfterwards() {
        Sentence.of(60, "Afterwards there is nothing to undo.");
        SledgePost post = advanced(20);
        post.save();
        post.restore();
        Due.fails("nothing", Due.ELEMENT, post::undo);
        Due.is("time", 20, post.time());
        post.advance(1);
        Due.is("only what came after it", 0, post.undo());
        Due.fails("nothing again", Due.ELEMENT, post::undo);
        for (int i = 0; i < 9; i++) {
            post.advance(1);
        }
        undoesAll("nine", post, 8);
        Due.is("the first of the nine stays", 21, post.time());
    }

    private static void noSnapshot() {
        Sentence.of(60, "Throws `IllegalStateException` if there is no snapshot");
        Refusal.of("in a new post", Due.STATE, Scenes::fresh, SledgePost::restore);
        Refusal.of("with letters", Due.STATE, () -> withLetters(12), SledgePost::restore);
        SledgePost post = new SledgePost();
        post.save();
        Due.is("of an empty post", 0, post.restore());
    }
}
