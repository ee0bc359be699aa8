/** Boundary sentences of the promises 54 to 57: typing and running scripts. */
final class BoundariesOfScripts {
    private static final String WRONG_FORM = Due.ARGUMENT.getSimpleName();
    private static final String FAILED = Due.STATE.getSimpleName();

    private BoundariesOfScripts() {
    }

    static void run() {
        Sentence.each(
                BoundariesOfScripts::noCharacter,
                BoundariesOfScripts::sixtyCharacters,
                BoundariesOfScripts::bufferLimit,
                BoundariesOfScripts::orderForTyping,
                BoundariesOfScripts::emptyAfterwards,
                BoundariesOfScripts::emptyAfterFailure,
                BoundariesOfScripts::wrongForm,
                BoundariesOfScripts::failingCommands,
                BoundariesOfScripts::everyCommandCanFail,
                BoundariesOfScripts::noCommandTakesEffect,
                BoundariesOfScripts::refusedScriptsLeaveTheRest,
                BoundariesOfScripts::orderForRunning,
                BoundariesOfScripts::oneAndMany,
                BoundariesOfScripts::repetitionsAndOptions,
                BoundariesOfScripts::waitWithoutNumber,
                BoundariesOfScripts::allOrNone,
                BoundariesOfScripts::firstWrongCharacter,
                BoundariesOfScripts::endTooEarly,
                BoundariesOfScripts::noWrongScript,
                BoundariesOfScripts::latestWrongScript,
                BoundariesOfScripts::noFailedScript,
                BoundariesOfScripts::latestFailedScript,
                BoundariesOfScripts::countedFromNought);
    }

    private static SledgePost filled() {
        SledgePost post = new SledgePost();
        for (int length = 1; length <= 60; length++) {
            Due.is("length", length, post.type('~'));
        }
        return post;
    }

    private static void noCharacter() {
        Sentence.of(54, "Throws `IllegalArgumentException` if the character code is not between 32 and 126");
        int[] wrong = {0, 9, 10, 31, 127, 128, 255, 256 + 32, 65535};
        Refusal.ofEach("code", Due.ARGUMENT, Scenes::busy, wrong, (post, code) -> post.type((char) code));
        SledgePost post = new SledgePost();
        int length = 0;
        for (int code : new int[] {32, 33, 125, 126}) {
            length++;
            Due.is("code " + code, length, post.type((char) code));
        }
    }

    private static void sixtyCharacters() {
        Sentence.of(54, "Throws `IllegalStateException` if the script buffer has 60 characters");
        SledgePost post = filled();
        Due.fails("the 61st", Due.STATE, () -> post.type('a'));
        Due.fails("and again", Due.STATE, () -> post.type(' '));
        Refusal.of("in a full buffer", Due.STATE, BoundariesOfScripts::filled, full -> full.type('a'));
    }

    private static void bufferLimit() {
        Sentence.ofTerms(54, "A script is typed into a buffer of at most 60 characters and then run.");
        SledgePost post = new SledgePost();
        String nineHours = "wait;wait;wait;wait;wait;wait;wait;wait;wait;";
        Posts.type(post, nineHours + "heat -10;heat 1");
        Due.fails("no more than 60", Due.STATE, () -> post.type('0'));
        Due.is("all 60 are run", 11, Due.outcome(post::runScript));
        Due.is("the hours", 9, post.time());
        Due.is("the last command as it was typed", 1, post.temperature());
        Posts.type(post, nineHours + "wait;wait;heat ");
        Due.fails("no more than 60 again", Due.STATE, () -> post.type('1'));
        Due.is("the end comes too early", WRONG_FORM, Due.outcome(post::runScript));
        Due.is("behind all 60", 60, post.errorPosition());
        Due.is("no further hour", 9, post.time());
        Posts.type(post, nineHours + "wait;wait;waitx");
        Due.is("the last one is wrong", WRONG_FORM, Due.outcome(post::runScript));
        Due.is("the last of 60", 59, post.errorPosition());
    }

    private static void orderForTyping() {
        Sentence.ofTerms(54, Refusal.IN_ORDER);
        Refusal.of("no character, and full", Due.ARGUMENT, BoundariesOfScripts::filled, post -> post.type((char) 127));
        Refusal.of("too small, and full", Due.ARGUMENT, BoundariesOfScripts::filled, post -> post.type((char) 31));
    }

    private static void emptyAfterwards() {
        Sentence.of(55, "The buffer is empty afterwards, also if an exception is thrown.");
        SledgePost post = new SledgePost();
        Due.is("a good script", 1, Posts.run(post, "station"));
        Due.is("empty after it", 1, post.type('x'));
        Due.is("a wrong form", WRONG_FORM, Due.outcome(post::runScript));
        Due.is("empty after it", 1, post.type('b'));
        Posts.type(post, "est 0");
        Due.is("a failed command", FAILED, Due.outcome(post::runScript));
        Due.is("empty after it", 1, post.type('x'));
    }

    private static void emptyAfterFailure() {
        Sentence.of(55, "also if an exception is thrown.");
        SledgePost post = filled();
        Due.is("a full buffer of the wrong form", WRONG_FORM, Due.outcome(post::runScript));
        Due.is("an empty buffer", WRONG_FORM, Due.outcome(post::runScript));
        Due.is("error at its start", 0, post.errorPosition());
        for (int length = 1; length <= 60; length++) {
            Due.is("60 characters fit again", length, post.type('a'));
        }
    }

    private static SledgePost typed(String script) {
        SledgePost post = Posts.inARow();
        post.addSledge(0, 9);
        post.post(0, 1, 9, 5, 5);
        post.save();
        post.setTemperature(3);
        Posts.type(post, script);
        return post;
    }

    /** What a script that throws must leave as it was: all but the buffer and one of the positions. */
    private static void refusesScript(String script, Class<? extends RuntimeException> due, String error, String failed) {
        SledgePost post = typed(script);
        Due.fails("'" + script + "'", due, post::runScript);
        Due.is("errorPosition after '" + script + "'", error, "" + Due.outcome(post::errorPosition));
        Due.is("failedCommand after '" + script + "'", failed, "" + Due.outcome(post::failedCommand));
        Due.is("the state after '" + script + "'", Posts.picture(typed("")), Posts.picture(post));
        Due.is("the buffer after '" + script + "'", 1, post.type(' '));
        Due.is("the changes after '" + script + "'", Posts.history(typed("")), Posts.history(ran(script)));
        Due.is("the next id after '" + script + "'", Posts.nextId(typed("")), Posts.nextId(ran(script)));
    }

    private static SledgePost ran(String script) {
        SledgePost post = typed(script);
        Due.outcome(post::runScript);
        return post;
    }

    private static void wrong(String script, int position) {
        refusesScript(script, Due.ARGUMENT, "" + position, Due.ELEMENT.getSimpleName());
    }

    private static void failing(String script, int index) {
        refusesScript(script, Due.STATE, Due.ELEMENT.getSimpleName(), "" + index);
    }

    private static void wrongForm() {
        Sentence.of(55, "Throws `IllegalArgumentException` if the script does not have the required form; errorPosition then "
                + "returns its error position");
        wrong("", 0);
        wrong(" ", 0);
        wrong(";", 0);
        wrong("0", 0);
        wrong("~", 0);
        wrong("x", 0);
        wrong("station;post 01 1 1 1;x", 22);
    }

    private static void failingCommands() {
        Sentence.of(55, "Throws `IllegalStateException` if the method for a command throws an exception; no command takes "
                + "effect, and failedCommand then returns the index of that command");
        failing("best 1", 0);
        failing("station;station;station", 2);
        failing("wait;best 1;best 2", 1);
        failing("post 01 1 1 1;load 0 0;load 0 1;wait", 2);
        failing("load 0 0;go 01;wait 5;heat 9;go 14", 4);
    }

    private static void everyCommandCanFail() {
        Sentence.of(55, "if the method for a command throws an exception");
        failing("sledge 0 9;sledge 0 9;sledge 0 9", 2);
        failing("road 09 1", 0);
        failing("road 11 1", 0);
        failing("road 01 21", 0);
        failing("road 01 999", 0);
        failing("sledge 9 9", 0);
        failing("sledge 0 4", 0);
        failing("sledge 0 31", 0);
        failing("post 05 1 1 1", 0);
        failing("post 50 1 1 1", 0);
        failing("post 00 1 1 1", 0);
        failing("post 01 0 1 1", 0);
        failing("post 01 10 1 1", 0);
        failing("post 01 1 100 1", 0);
        failing("post 01 1 1 0", 0);
        failing("post 01 1 1 100", 0);
        failing("load 1 0", 0);
        failing("load 0 1", 0);
        failing("load 0 999", 0);
        failing("unload 0 0", 0);
        failing("unload 9 0", 0);
        failing("go 00", 0);
        failing("go 04", 0);
        failing("go 05", 0);
        failing("go 10", 0);
        failing("heat 11", 0);
        failing("heat -31", 0);
        failing("heat 999", 0);
        failing("heat -999", 0);
        failing("wait 0", 0);
        failing("wait 49", 0);
        failing("wait 999", 0);
    }

    private static void noCommandTakesEffect() {
        Sentence.ofTerms(55, "The commands are executed in order, and either all of them take effect or none.");
        failing("station;road 45 3;sledge 5 30;post 54 9 9 9;heat -5;wait 0", 5);
        failing("load 0 0;go 01;wait 5;wait 5;go 02;post 01 1 1 1;go 03", 6);
        failing("unload 0 0;load 0 0", 0);
        failing("load 0 0;unload 0 0;unload 0 0", 2);
        Due.is("in this order", 2, Due.outcome(typed("load 0 0;unload 0 0")::runScript));
        Due.is("each sees what the one before did", 5,
                Due.outcome(typed("station;road 05 2;post 05 1 9 9;sledge 0 9;load 1 1")::runScript));
    }

    private static void refusedScriptsLeaveTheRest() {
        Sentence.ofTerms(55, Refusal.NO_TRACE);
        SledgePost post = Scenes.busy();
        Due.is("a wrong form", WRONG_FORM, Due.outcome(post::runScript));
        Due.is("but for its error position", "2>3 7g25c25/30 error 3 failed 1 typed 1", Posts.texts(post));
        SledgePost failed = Scenes.busy();
        Posts.type(failed, "t;wait;wait;heat 99");
        Due.is("a failed command", FAILED, Due.outcome(failed::runScript));
        Due.is("but for its index", "2>3 7g25c25/30 error 2 failed 3 typed 1", Posts.texts(failed));
        wrong("wait;", 5);
        failing("wait;heat 11", 1);
    }

    private static void orderForRunning() {
        Sentence.ofTerms(55, Refusal.IN_ORDER);
        wrong("best 9;x", 7);
        wrong("heat 99;wait;heat", 17);
        failing("heat 99;best 9", 0);
    }

    private static void oneAndMany() {
        Sentence.of(55, "Returns the number of commands.");
        Due.is("one", 1, Posts.run(new SledgePost(), "wait"));
        Due.is("two", 2, Posts.run(new SledgePost(), "wait;wait"));
        StringBuilder script = new StringBuilder("wait");
        for (int i = 1; i < 12; i++) {
            script.append(";wait");
        }
        Due.is("twelve", 12, Posts.run(new SledgePost(), script.toString()));
    }

    private static void repetitionsAndOptions() {
        Sentence.ofTerms(55, "braces mean zero or more repetitions, brackets an optional part, and a bar an alternative.");
        String[] good = {"station", "road 01 0", "road 01 00", "road 01 020", "sledge 0 5", "sledge 0 05",
            "sledge 0 030", "post 01 1 0 1", "post 01 001 000 099", "load 0 0", "load 0 000", "best 0", "go 01",
            "heat 0", "heat -0", "heat -00", "heat 010", "heat -030", "wait", "wait 1", "wait 01", "wait 048",
            "station;wait;wait 48", "load 0 0;unload 0 00"};
        for (String script : good) {
            int commands = script.split(";").length;
            Due.is("'" + script + "'", commands, Due.outcome(typed(script)::runScript));
        }
        wrong("road 01 0000", 11);
        wrong("heat 0001", 8);
        wrong("wait 0001", 8);
        wrong("wait -1", 5);
        wrong("road 01 -1", 8);
        wrong("best 00", 6);
        wrong("go 001", 5);
        wrong("load 00 0", 6);
        wrong("station wait", 7);
        wrong("station;;wait", 8);
    }

    private static void waitWithoutNumber() {
        Sentence.ofTerms(55, "wait without a number advances by 1 hour.");
        SledgePost post = new SledgePost();
        Due.is("wait", 1, Posts.run(post, "wait"));
        Due.is("one hour", 1, post.time());
        Due.is("wait 1", 1, Posts.run(post, "wait 1"));
        Due.is("one more", 2, post.time());
        Due.is("wait 48 and wait", 2, Posts.run(post, "wait 48;wait"));
        Due.is("49 more", 51, post.time());
        Due.is("wait and wait 48", 2, Posts.run(post, "wait;wait 48"));
        Due.is("49 more again", 100, post.time());
    }

    private static void allOrNone() {
        Sentence.ofTerms(55, "and either all of them take effect or none.");
        SledgePost post = Scenes.busy();
        Posts.type(post, "t;wait 4;unload 0 0;post 01 1 1 1;load 0 1");
        Due.is("all of them", 5, Due.outcome(post::runScript));
        Due.is("the time", 10, post.time());
        Due.is("the next id", 7, post.post(0, 1, 1, 1, 1));
        post.undo();
        Due.is("undone by one undo", 6, post.undo());
        Due.is("as before", Posts.picture(Scenes.busy()), Posts.picture(post));
    }

    /** Each beginning of a script with each character behind it, compared with a regular expression. */
    private static void firstWrongCharacter() {
        Sentence.ofTerms(56, "is the index of the first character that cannot continue any script of this form");
        String[] scripts = {"station;", "road 12 345;", "sledge 0 123;", "post 34 567 890 123;", "load 1 234;",
            "unload 5 678;", "best 9;", "go 01;", "heat 123;", "heat -123;", "wait;w", "wait 123;s"};
        for (String script : scripts) {
            for (int length = 0; length <= script.length(); length++) {
                for (char sign = 32; sign <= 126; sign++) {
                    checkError(script.substring(0, length) + sign + ";wait!");
                }
            }
        }
    }

    private static void checkError(String script) {
        SledgePost post = new SledgePost();
        Posts.run(post, script);
        Due.is("'" + script + "'", Model.errorIn(script), Due.outcome(post::errorPosition));
    }

    private static void endTooEarly() {
        Sentence.ofTerms(56, "or the length of the script if every character can and the end comes too early.");
        String[] scripts = {"", "s", "statio", "road", "road ", "road 1", "road 12", "road 12 ", "sledge", "sledge ",
            "sledge 1", "sledge 1 ", "post 12 3 4", "post 12 3 4 ", "post 12 3 456", "load 1", "load 1 ", "unload 1 ",
            "un", "best", "best ", "go", "go ", "go 1", "heat", "heat ", "heat -", "wai", "wait ", "wait;", "wait 1;",
            "wait;wait;w", "station;heat -"};
        for (String script : scripts) {
            SledgePost post = new SledgePost();
            Due.is("'" + script + "'", WRONG_FORM, Posts.run(post, script));
            Due.is("the end of '" + script + "'", script.length(), post.errorPosition());
        }
    }

    private static SledgePost afterOtherScripts() {
        SledgePost post = new SledgePost();
        Posts.run(post, "wait;station");
        Posts.run(post, "best 0");
        Posts.type(post, "not run");
        return post;
    }

    private static void noWrongScript() {
        Sentence.of(56, "Throws `NoSuchElementException` if there was no such script");
        Refusal.of("in a new post", Due.ELEMENT, Scenes::fresh, SledgePost::errorPosition);
        Refusal.of("after scripts of the form", Due.ELEMENT, BoundariesOfScripts::afterOtherScripts, SledgePost::errorPosition);
        SledgePost post = afterOtherScripts();
        Due.is("run after all", WRONG_FORM, Due.outcome(post::runScript));
        Due.is("now there was one", 0, post.errorPosition());
    }

    private static void latestWrongScript() {
        Sentence.of(56, "Returns the error position of the latest script that did not have the required form.");
        SledgePost post = new SledgePost();
        Posts.run(post, "station;x");
        Due.is("the first", 8, post.errorPosition());
        Posts.run(post, "wait");
        Due.is("after a good one", 8, post.errorPosition());
        Posts.run(post, "best 9");
        Due.is("after a failed one", 8, post.errorPosition());
        post.undo();
        Due.is("after an undo", 8, post.errorPosition());
        Posts.run(post, "");
        Due.is("the latest", 0, post.errorPosition());
        Posts.run(post, "road 012");
        Due.is("the latest again", 7, post.errorPosition());
        Due.is("asked twice", 7, post.errorPosition());
    }

    private static SledgePost afterWrongScripts() {
        SledgePost post = new SledgePost();
        Posts.run(post, "wait");
        Posts.run(post, "best 0;");
        Posts.run(post, "");
        Posts.type(post, "best 0");
        return post;
    }

    private static void noFailedScript() {
        Sentence.of(57, "Throws `NoSuchElementException` if there was no such script");
        Refusal.of("in a new post", Due.ELEMENT, Scenes::fresh, SledgePost::failedCommand);
        Refusal.of("after other scripts", Due.ELEMENT, BoundariesOfScripts::afterWrongScripts, SledgePost::failedCommand);
        SledgePost post = afterWrongScripts();
        Due.is("run after all", FAILED, Due.outcome(post::runScript));
        Due.is("now there was one", 0, post.failedCommand());
    }

    private static void latestFailedScript() {
        Sentence.of(57, "Returns the index of the command that failed in the latest script with a failed command.");
        SledgePost post = new SledgePost();
        Posts.run(post, "wait;wait;best 9;best 9");
        Due.is("the first", 2, post.failedCommand());
        Posts.run(post, "wait");
        Due.is("after a good one", 2, post.failedCommand());
        Posts.run(post, "wait;;");
        Due.is("after a wrong one", 2, post.failedCommand());
        post.undo();
        Due.is("after an undo", 2, post.failedCommand());
        Posts.run(post, "go 00;wait");
        Due.is("the latest", 0, post.failedCommand());
        Posts.run(post, "wait;load 0 0");
        Due.is("the latest again", 1, post.failedCommand());
    }

    private static void countedFromNought() {
        Sentence.of(57, "Returns the index of the command, counted from 0.");
        for (int index = 0; index < 11; index++) {
            SledgePost post = new SledgePost();
            StringBuilder script = new StringBuilder();
            for (int i = 0; i < index; i++) {
                script.append("wait;");
            }
            Due.is("after " + index, FAILED, Posts.run(post, script.append("go 00").toString()));
            Due.is("the command", index, post.failedCommand());
            Due.is("no time", 0, post.time());
        }
    }
}
