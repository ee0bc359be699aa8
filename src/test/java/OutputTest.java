import java.util.NoSuchElementException;

/** Promises 51 to 53: the output text. */
public final class OutputTest {
    private static final Class<IndexOutOfBoundsException> INDEX = IndexOutOfBoundsException.class;
    private static final Class<NoSuchElementException> ELEMENT = NoSuchElementException.class;

    public static void main(String[] args) {
        sledges();
        letters();
        outputText();
        Due.end();
    }

    private static void sledges() {
        SledgePost post = Posts.inARow();
        post.addSledge(3, 20);
        post.addSledge(0, 5);
        Due.is("51 empty", "0:0/20@3", Posts.sledge(post, 0));
        Due.is("51 the other", "1:0/5@0", Posts.sledge(post, 1));
        for (int i = 0; i < 10; i++) {
            post.post(3, 0, 2, 1, 1);
        }
        Due.is("51 waiting letters are not on it", "0:0/20@3", Posts.sledge(post, 0));
        post.load(0, 9);
        post.load(0, 2);
        post.load(0, 5);
        Due.is("51 in the order of ids", "0:6/20@3#2#5#9", Posts.sledge(post, 0));
        Due.is("51 length", 14, post.renderSledge(0));
        post.send(0, 1);
        Due.is("51 travels", "0:6/20>1+7#2#5#9", Posts.sledge(post, 0));
        post.advance(6);
        Due.is("51 an hour left", "0:6/20>1+1#2#5#9", Posts.sledge(post, 0));
        post.advance(1);
        Due.is("51 there", "0:6/20@1#2#5#9", Posts.sledge(post, 0));
        Due.fails("51 sledge", INDEX, () -> post.renderSledge(2));
        Due.fails("51 negative", INDEX, () -> post.renderSledge(-1));
        Due.is("51 a failure keeps the text", "0:6/20@1#2#5#9", Posts.output(post, 14));
    }

    private static void letters() {
        SledgePost post = Posts.inARow();
        post.post(0, 2, 3, 50, 25);
        post.post(0, 4, 9, 0, 7);
        post.setTemperature(5);
        post.advance(3);
        Due.is("52 letter", "0>2 3g50c10/25", Posts.letter(post, 0));
        Due.is("52 length", 14, post.renderLetter(0));
        Due.is("52 open", "1>4 9g0c0/7", Posts.letter(post, 1));
        Due.is("52 shorter length", 11, post.renderLetter(1));
        Due.fails("52 letter", ELEMENT, () -> post.renderLetter(2));
        Due.is("52 a failure keeps the text", "1>4 9g0c0/7", Posts.output(post, 11));
        for (int i = 2; i < 12; i++) {
            post.post(1, 0, 1, 99, 99);
        }
        Due.is("52 id of two digits", "11>0 1g99c99/99", Posts.letter(post, 11));
    }

    private static void outputText() {
        SledgePost post = Posts.withStations(2);
        Due.fails("53 empty", INDEX, () -> post.outputAt(0));
        Due.fails("53 negative", INDEX, () -> post.outputAt(-1));
        post.addSledge(1, 30);
        post.renderSledge(0);
        Due.is("53 first", '0', post.outputAt(0));
        Due.is("53 last", '1', post.outputAt(7));
        Due.fails("53 behind", INDEX, () -> post.outputAt(8));
        post.post(0, 1, 1, 0, 9);
        post.renderLetter(0);
        Due.is("53 replaced", ' ', post.outputAt(3));
        post.undo();
        Due.is("53 undo leaves the text", '>', post.outputAt(1));
        post.save();
        post.renderSledge(0);
        post.restore();
        Due.is("53 restore leaves the text", ':', post.outputAt(1));
    }
}
