import java.util.ArrayList;
import java.util.List;
import java.util.NoSuchElementException;

/** Promises 58 to 60: undo and the snapshot. */
public final class UndoTest {
    private static final Class<IllegalStateException> STATE = IllegalStateException.class;
    private static final Class<NoSuchElementException> ELEMENT = NoSuchElementException.class;

    public static void main(String[] args) {
        everyChange();
        eightChanges();
        changesAfterUndo();
        sameStateIsAChange();
        scripts();
        snapshots();
        otherThingsAtTheSameIndex();
        Due.end();
    }

    private interface Change {
        void on(SledgePost post);
    }

    private static void everyChange() {
        List<Change> changes = new ArrayList<>();
        changes.add(post -> post.addStation());
        changes.add(post -> post.setRoad(1, 2, 20));
        changes.add(post -> post.addSledge(3, 11));
        changes.add(post -> post.post(0, 3, 1, 2, 3));
        changes.add(post -> post.load(0, 1));
        changes.add(post -> post.unload(0, 0));
        changes.add(post -> post.loadBest(0));
        changes.add(post -> post.send(0, 3));
        changes.add(post -> post.setTemperature(-7));
        changes.add(post -> post.advance(9));
        changes.add(post -> Posts.run(post, "wait;station;heat 9;wait 9"));
        for (int i = 0; i < changes.size(); i++) {
            SledgePost post = Posts.inARow();
            post.addSledge(0, 20);
            post.addSledge(1, 20);
            post.post(0, 1, 3, 20, 9);
            post.post(0, 2, 4, 21, 2);
            post.post(1, 0, 5, 22, 9);
            post.load(0, 0);
            post.load(1, 2);
            post.send(1, 0);
            post.setTemperature(2);
            String before = Posts.picture(post);
            changes.get(i).on(post);
            Due.is("58 change " + i + " shows", false, before.equals(Posts.picture(post)));
            Due.is("58 one less after change " + i, 7, post.undo());
            Due.is("58 as before change " + i, before, Posts.picture(post));
            Due.is("58 the next id after change " + i, 3, post.post(0, 1, 1, 1, 1));
        }
    }

    private static void eightChanges() {
        SledgePost post = new SledgePost();
        Due.fails("58 nothing", ELEMENT, post::undo);
        for (int i = 1; i <= 10; i++) {
            post.advance(1);
        }
        for (int left = 7; left >= 0; left--) {
            Due.is("58 left", left, post.undo());
            Due.is("58 time", left + 2, post.time());
        }
        Due.fails("58 no more than eight", ELEMENT, post::undo);
        Due.is("58 two stay", 2, post.time());
    }

    private static void changesAfterUndo() {
        SledgePost post = new SledgePost();
        for (int i = 0; i < 6; i++) {
            post.advance(1);
        }
        post.undo();
        post.undo();
        post.advance(10);
        Due.is("58 the new change", 4, post.undo());
        Due.is("58 before it", 4, post.time());
        Due.is("58 an old change", 3, post.undo());
        Due.is("58 before that", 3, post.time());
        for (int i = 0; i < 20; i++) {
            post.advance(2);
            post.advance(1);
            post.undo();
        }
        Due.is("58 after many", 6, post.undo());
        Due.is("58 time after many", 3 + 38, post.time());
    }

    private static void sameStateIsAChange() {
        SledgePost post = Posts.withStations(2);
        post.addSledge(0, 9);
        post.setRoad(0, 1, 0);
        Due.is("58 road", 3, post.undo());
        post.setTemperature(0);
        Due.is("58 temperature", 3, post.undo());
        post.loadBest(0);
        Due.is("58 best load of nothing", 3, post.undo());
        post.stationCount();
        post.isConsistent();
        post.renderSledge(0);
        post.bestLoadFee(0);
        post.roundTrip(0);
        post.save();
        Due.is("58 questions and save are no changes", 2, post.undo());
    }

    private static void scripts() {
        SledgePost post = Posts.withStations(1);
        Due.is("55 script", 3, Posts.run(post, "station;station;wait"));
        Posts.run(post, "station;best 0");
        Posts.run(post, "statio");
        Due.is("58 a script is one change, a failed one none", 1, post.undo());
        Due.is("58 as before the script", 1, post.stationCount());
        for (int i = 0; i < 8; i++) {
            post.advance(1);
        }
        Posts.run(post, "wait;best 0");
        Due.is("58 a failed script drops no change", 7, post.undo());
        for (int i = 6; i >= 0; i--) {
            Due.is("58 each of them", i, post.undo());
        }
        Due.is("58 back", 0, post.time());
    }

    private static void snapshots() {
        SledgePost post = Posts.inARow();
        Due.fails("60 none", STATE, post::restore);
        Due.is("59 no letters", 0, post.save());
        post.addSledge(0, 9);
        post.post(0, 1, 1, 10, 5);
        post.post(0, 2, 1, 10, 5);
        Due.is("59 two letters", 2, post.save());
        String saved = Posts.picture(post);
        post.loadBest(0);
        post.send(0, 1);
        post.setTemperature(1);
        post.advance(5);
        post.setRoad(0, 3, 2);
        post.addStation();
        post.post(2, 3, 1, 1, 1);
        Due.is("60 letters", 2, post.restore());
        Due.is("60 as saved", saved, Posts.picture(post));
        Due.fails("60 nothing to undo", ELEMENT, post::undo);
        Due.is("60 the next id", 2, post.post(0, 1, 1, 1, 1));
        Due.is("58 after restore", 0, post.undo());
        post.advance(3);
        post.undo();
        post.advance(4);
        Due.is("60 kept", 2, post.restore());
        Due.is("60 as saved again", saved, Posts.picture(post));
        post.post(0, 1, 1, 1, 1);
        post.save();
        post.undo();
        Due.is("58 undo leaves the snapshot", 3, post.restore());
    }

    /** What was made after an undo leaves nothing behind in what the snapshot brings back. */
    private static void otherThingsAtTheSameIndex() {
        SledgePost post = Posts.inARow();
        post.addSledge(0, 9);
        post.post(0, 1, 2, 10, 5);
        post.save();
        String saved = Posts.picture(post);
        post.undo();
        post.undo();
        String empty = Posts.picture(post);
        post.addSledge(2, 30);
        post.post(2, 3, 9, 99, 98);
        post.load(0, 0);
        post.send(0, 0);
        post.restore();
        Due.is("60 the sledge and the letter as saved", saved, Posts.picture(post));

        SledgePost other = Posts.inARow();
        other.save();
        other.addSledge(0, 9);
        other.post(0, 1, 2, 10, 5);
        other.load(0, 0);
        other.send(0, 3);
        other.restore();
        Due.is("60 empty again", empty, Posts.picture(other));
        other.addSledge(1, 10);
        other.post(1, 0, 1, 1, 1);
        Due.is("4 a new sledge stands", "0:0/10@1", Posts.sledge(other, 0));
        Due.is("5 a new letter waits", 1, other.stationOfLetter(0));
    }
}
