import java.util.NoSuchElementException;

/** Promises 54 to 57: scripts. */
public final class ScriptTest {
    private static final Class<IllegalArgumentException> ARGUMENT = IllegalArgumentException.class;
    private static final Class<IllegalStateException> STATE = IllegalStateException.class;
    private static final Class<NoSuchElementException> ELEMENT = NoSuchElementException.class;
    private static final String WRONG_FORM = ARGUMENT.getSimpleName();
    private static final String FAILED = STATE.getSimpleName();

    public static void main(String[] args) {
        typing();
        everyCommand();
        numbers();
        wrongForms();
        failures();
        positionsStay();
        fullBuffer();
        Due.end();
    }

    private static void typing() {
        SledgePost post = new SledgePost();
        Due.fails("54 below", ARGUMENT, () -> post.type((char) 31));
        Due.fails("54 above", ARGUMENT, () -> post.type((char) 127));
        Due.fails("54 nought", ARGUMENT, () -> post.type((char) 0));
        Due.fails("54 far above", ARGUMENT, () -> post.type('\uffff'));
        Due.is("54 least", 1, post.type(' '));
        Due.is("54 most", 2, post.type('~'));
        for (int length = 3; length <= 60; length++) {
            Due.is("54 length", length, post.type('a'));
        }
        Due.fails("54 full", STATE, () -> post.type('a'));
        Due.fails("54 argument before state", ARGUMENT, () -> post.type((char) 127));
        Due.fails("55 wrong form", ARGUMENT, post::runScript);
        Due.is("55 empty afterwards", 1, post.type('a'));
    }

    private static void everyCommand() {
        SledgePost post = new SledgePost();
        Due.is("55 one", 1, Posts.run(post, "station"));
        Due.is("55 stations and roads", 4, Posts.run(post, "station;station;road 01 5;road 12 04"));
        Due.is("55 road", 5, post.road(0, 1));
        Due.is("55 leading nought", 4, post.road(1, 2));
        Due.is("55 sledge and letters", 3, Posts.run(post, "sledge 0 12;post 02 5 40 33;post 01 6 20 1"));
        Due.is("55 letter", "0>2 5g40c33/33", Posts.letter(post, 0));
        Due.is("55 where", 0, post.stationOfLetter(1));
        Due.is("55 load", 2, Posts.run(post, "load 0 1;load 0 000"));
        Due.is("55 loaded", "0:11/12@0#0#1", Posts.sledge(post, 0));
        Due.is("55 unload", 1, Posts.run(post, "unload 0 1"));
        Due.is("55 unloaded", "0:5/12@0#0", Posts.sledge(post, 0));
        Due.is("55 another sledge", 3, Posts.run(post, "sledge 1 9;post 10 1 1 1;load 1 2"));
        Due.is("55 unload it", 1, Posts.run(post, "unload 1 2"));
        Due.is("55 where it was unloaded", 1, post.stationOfLetter(2));
        Due.is("55 best", 1, Posts.run(post, "best 0"));
        Due.is("55 loaded best", "0:11/12@0#0#1", Posts.sledge(post, 0));
        Due.is("55 go", 2, Posts.run(post, "go 01;heat 1"));
        Due.is("55 sent", 5, post.hoursLeft(0));
        Due.is("55 wait", 1, Posts.run(post, "wait"));
        Due.is("55 an hour", 1, post.time());
        Due.is("55 wait longer", 2, Posts.run(post, "wait 4;heat -30"));
        Due.is("55 time", 5, post.time());
        Due.is("55 delivered open", -5 + 10, post.coins());
        Due.is("55 frost", -30, post.temperature());
    }

    private static void numbers() {
        SledgePost post = Posts.withStations(2);
        Due.is("55 heat -0", 1, Posts.run(post, "heat -0"));
        Due.is("55 heat 010", 1, Posts.run(post, "heat 010"));
        Due.is("55 heat", 10, post.temperature());
        Due.is("55 too warm", FAILED, Posts.run(post, "heat 11"));
        Due.is("55 too cold", FAILED, Posts.run(post, "heat -31"));
        Due.is("55 wait 048", 1, Posts.run(post, "wait 048"));
        Due.is("55 wait 49", FAILED, Posts.run(post, "wait 49"));
        Due.is("55 wait 0", FAILED, Posts.run(post, "wait 0"));
        Due.is("55 too long", FAILED, Posts.run(post, "road 01 21"));
        Due.is("55 too small", FAILED, Posts.run(post, "sledge 0 4"));
        Due.is("55 too heavy", FAILED, Posts.run(post, "post 01 10 1 1"));
        Due.is("55 too dear", FAILED, Posts.run(post, "post 01 1 100 1"));
        Due.is("55 too strong", FAILED, Posts.run(post, "post 01 1 1 100"));
        Due.is("55 no sledge 9", FAILED, Posts.run(post, "best 9"));
        Due.is("55 no letter 999", FAILED, Posts.run(post, "sledge 0 5;load 0 999"));
        Due.is("57 second command", 1, post.failedCommand());
        Due.is("55 nothing took effect", 0, post.sledgeCount());
    }

    private static void wrongForm(String script, int position) {
        SledgePost post = Posts.inARow();
        post.addSledge(0, 9);
        String before = Posts.picture(post);
        Due.is("55 '" + script + "'", WRONG_FORM, Posts.run(post, script));
        Due.is("56 '" + script + "'", position, post.errorPosition());
        Due.is("55 nothing of '" + script + "'", before, Posts.picture(post));
    }

    private static void wrongForms() {
        Due.fails("56 none yet", ELEMENT, new SledgePost()::errorPosition);
        wrongForm("", 0);
        wrongForm(" station", 0);
        wrongForm("Station", 0);
        wrongForm(";", 0);
        wrongForm("s", 1);
        wrongForm("sx", 1);
        wrongForm("sta", 3);
        wrongForm("stl", 2);
        wrongForm("slt", 2);
        wrongForm("station ", 7);
        wrongForm("station;", 8);
        wrongForm("station;;", 8);
        wrongForm("station; station", 8);
        wrongForm("stationstation", 7);
        wrongForm("road", 4);
        wrongForm("road0", 4);
        wrongForm("road ", 5);
        wrongForm("road 0", 6);
        wrongForm("road 0 1 5", 6);
        wrongForm("road 012", 7);
        wrongForm("road 01 ", 8);
        wrongForm("road 01  5", 8);
        wrongForm("road 01 -5", 8);
        wrongForm("road 01 1234", 11);
        wrongForm("road 01 12 ", 10);
        wrongForm("sledge 10 5", 8);
        wrongForm("sledge 1", 8);
        wrongForm("sledge 1 /", 9);
        wrongForm("sledge 1 :", 9);
        wrongForm("post 01 1 1", 11);
        wrongForm("post 01 1 1;", 11);
        wrongForm("post 01 1 1 1 1", 13);
        wrongForm("load 0", 6);
        wrongForm("load 0 a", 7);
        wrongForm("unload 00", 8);
        wrongForm("unlaod 0 0", 3);
        wrongForm("best 00", 6);
        wrongForm("best", 4);
        wrongForm("go 0", 4);
        wrongForm("go 012", 5);
        wrongForm("heat", 4);
        wrongForm("heat -", 6);
        wrongForm("heat --1", 6);
        wrongForm("heat +1", 5);
        wrongForm("heat - 1", 6);
        wrongForm("heat 1-", 6);
        wrongForm("wait ", 5);
        wrongForm("wait ;wait", 5);
        wrongForm("wait1", 4);
        wrongForm("wait 1234", 8);
        wrongForm("wait -1", 5);
        wrongForm("wait 1;waix", 10);
        wrongForm("station;road 01 2;heat 3;h", 26);
    }

    private static void failures() {
        SledgePost post = Posts.inARow();
        post.addSledge(0, 9);
        Due.fails("57 none yet", ELEMENT, post::failedCommand);
        String before = Posts.picture(post);
        Due.is("55 first fails", FAILED, Posts.run(post, "go 04;station"));
        Due.is("57 first", 0, post.failedCommand());
        Due.is("55 third fails", FAILED, Posts.run(post, "station;post 01 2 3 4;sledge 9 9;wait"));
        Due.is("57 third", 2, post.failedCommand());
        Due.is("55 none takes effect", before, Posts.picture(post));
        Due.is("55 no id is lost", 0, post.post(0, 1, 1, 1, 1));
        Due.is("55 the buffer is empty", 1, Posts.run(post, "station"));
        Due.is("55 seventh and eighth", FAILED, Posts.run(post, "station;station"));
        Due.is("57 eighth", 1, post.failedCommand());
        Due.is("55 too heavy", FAILED, Posts.run(post, "post 01 9 1 1;load 0 1;load 0 0"));
        Due.is("57 too heavy", 2, post.failedCommand());
        Due.is("55 not on it", FAILED, Posts.run(post, "unload 0 0"));
        Due.is("57 not on it", 0, post.failedCommand());
        Due.is("55 travels", FAILED, Posts.run(post, "go 01;best 0"));
        Due.is("57 travels", 1, post.failedCommand());
        Due.is("55 same station", FAILED, Posts.run(post, "wait;road 11 1"));
        Due.is("57 same station", 1, post.failedCommand());
    }

    private static void positionsStay() {
        SledgePost post = Posts.withStations(1);
        Posts.run(post, "stx");
        Posts.run(post, "wait;best 0");
        Due.is("56 stays when a command fails", 2, post.errorPosition());
        Due.is("57 failed", 1, post.failedCommand());
        Posts.run(post, "wait");
        post.undo();
        Due.is("56 stays", 2, post.errorPosition());
        Due.is("57 stays", 1, post.failedCommand());
        Posts.run(post, "");
        Due.is("56 the latest", 0, post.errorPosition());
        Due.is("57 stays when the form is wrong", 1, post.failedCommand());
        post.save();
        Posts.type(post, "wai");
        post.restore();
        Due.is("54 restore leaves the buffer", 4, post.type('t'));
        post.addStation();
        post.undo();
        Due.is("54 undo leaves the buffer", 5, post.type(';'));
        Due.is("55 all that was typed", 2, Posts.run(post, "wait"));
    }

    private static void fullBuffer() {
        SledgePost post = new SledgePost();
        Due.is("55 twelve commands", 12,
                Posts.run(post, "wait;wait;wait;wait;wait;wait;wait;wait;wait;wait;wait;wait"));
        Due.is("55 twelve hours", 12, post.time());
        Posts.run(post, "wait;wait;wait;wait;wait;wait;wait;wait;wait;wait;wait;wait;");
        Due.is("56 the end of a full buffer", 60, post.errorPosition());
        Due.is("55 still twelve hours", 12, post.time());
    }
}
