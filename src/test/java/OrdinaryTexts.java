/** Ordinary sentences of the promises 51 to 60: output, scripts, undo and the snapshot. */
final class OrdinaryTexts {
    private static final String TEXT_LENGTH = "Returns the length of the output text.";
    private static final String LETTERS = "Returns the number of letters in the post.";

    private OrdinaryTexts() {
    }

    static void run() {
        Sentence.each(
                OrdinaryTexts::renderSledge,
                OrdinaryTexts::renderLetter,
                OrdinaryTexts::outputAt,
                OrdinaryTexts::type,
                OrdinaryTexts::runScript,
                OrdinaryTexts::errorPosition,
                OrdinaryTexts::undo,
                OrdinaryTexts::save,
                OrdinaryTexts::restore);
    }

    private static void renderSledge() {
        SledgePost post = Scenes.town();
        Sentence.of(51, TEXT_LENGTH);
        Due.is("of the longest", "1:10/13>2+6#0#5".length(), post.renderSledge(1));
        Due.is("of the shortest", "2:0/30@3".length(), post.renderSledge(2));
        Sentence.of(51, "- `sledge`: the index of the sledge");
        Due.is("the first", "0:5/20@1#1", Posts.sledge(post, 0));
        Due.is("the second", "1:10/13>2+6#0#5", Posts.sledge(post, 1));
        Due.is("the third", "2:0/30@3", Posts.sledge(post, 2));
    }

    private static void renderLetter() {
        SledgePost post = Scenes.town();
        Sentence.of(52, "Replaces the output text by a description of a letter: its id, \">\" and its destination");
        post.renderSledge(1);
        Due.is("the first", "0>2 3g41c5/17", Posts.letter(post, 0));
        Due.is("it replaces", "0>2 3g41c5/17 error", Posts.texts(post).substring(0, 19));
        Sentence.of(52, TEXT_LENGTH);
        Due.is("of the first", 13, post.renderLetter(0));
        Due.is("of one with more ice", 14, post.renderLetter(2));
        Due.is("of an open one", 12, post.renderLetter(4));
        Sentence.of(52, "- `letter`: the id of the letter");
        Due.is("the third", "2>0 8g72c41/53", Posts.letter(post, 2));
        Due.is("the open one", "4>4 6g33c0/8", Posts.letter(post, 4));
    }

    private static void outputAt() {
        SledgePost post = Scenes.town();
        post.renderSledge(1);
        Sentence.of(53, "Returns the character.");
        Due.is("of a sledge", '>', post.outputAt(7));
        Sentence.of(53, "- `index`: the index of the character");
        Due.is("the next one", '2', post.outputAt(8));
        Due.is("the first", '1', post.outputAt(0));
        Due.is("the last", '5', post.outputAt(14));
    }

    private static void type() {
        SledgePost post = Scenes.town();
        Sentence.of(54, "Returns the length of the script buffer.");
        Due.is("one", 1, post.type('w'));
        Due.is("two", 2, post.type('a'));
        Sentence.of(54, "Appends a character to the script buffer.");
        Due.is("behind what is there", 1, Posts.run(post, "it"));
        Due.is("one hour has passed", 5, post.time());
        Sentence.of(54, "- `character`: the character");
        Posts.type(post, "wait ");
        post.type('7');
        post.runScript();
        Due.is("seven more", 12, post.time());
    }

    private static void runScript() {
        SledgePost post = Scenes.town();
        Sentence.of(55, "Returns the number of commands.");
        Due.is("three", 3, Posts.run(post, "best 0;go 03;wait 8"));
        Due.is("one", 1, Posts.run(post, "post 52 4 37 19"));
        Sentence.of(55, "Runs the script in the script buffer.");
        Due.is("loaded, sent and come", "0:14/20@3#2#4", Posts.sledge(post, 0));
        Due.is("posted", "6>2 4g37c19/19", Posts.letter(post, 6));
        Posts.run(post, "station;road 56 12;heat -20;unload 0 4");
        Due.is("a station and a road", 12, post.road(5, 6));
        Due.is("frost", -20, post.temperature());
        Due.is("unloaded", 3, post.stationOfLetter(4));
        Posts.run(post, "load 2 3;load 2 4");
        Due.is("both loaded", "2:8/30@3#3#4", Posts.sledge(post, 2));
        SledgePost other = Posts.inARow();
        Due.is("a sledge", 1, Posts.run(other, "sledge 3 18"));
        Due.is("stands", "0:0/18@3", Posts.sledge(other, 0));
    }

    private static void errorPosition() {
        Sentence.of(56, "Returns the error position.");
        SledgePost post = Scenes.town();
        Due.is("a wrong sign", "IllegalArgumentException", Posts.run(post, "best 0;goo 03"));
        Due.is("in the second command", 9, post.errorPosition());
    }

    private static void undo() {
        Sentence.of(58, "Returns the number of changes that can still be undone.");
        SledgePost post = Scenes.town();
        // 26 calls have changed the town, the latest 8 of them can be undone.
        Due.is("seven more", 7, post.undo());
        Due.is("six more", 6, post.undo());
        post.setTemperature(9);
        Due.is("six more again", 6, post.undo());
    }

    private static void save() {
        Sentence.of(59, LETTERS);
        SledgePost post = Scenes.town();
        Due.is("six", 6, post.save());
        post.post(0, 1, 1, 1, 1);
        Due.is("seven", 7, post.save());
    }

    private static void restore() {
        Sentence.of(60, LETTERS);
        SledgePost post = Scenes.town();
        post.save();
        post.advance(6);
        Due.is("one is delivered", 5, post.letterCount());
        Due.is("it is back", 6, post.restore());
        Due.is("the hours too", 4, post.time());
    }
}
