import java.util.function.Supplier;

/** Calls that are refused: what they throw, and that they leave no trace. */
final class Refusal {
    interface Act {
        Object on(SledgePost post);
    }

    interface ActWith {
        Object on(SledgePost post, int value);
    }

    static final String IN_ORDER = "If several exceptions apply, the one that is listed first is thrown.";
    static final String NO_TRACE =
            "A method that throws an exception changes nothing unless its description says otherwise.";

    private Refusal() {
    }

    /** The call throws an exception of exactly this class, and all is afterwards as if it had never been made. */
    static void of(String what, Class<? extends RuntimeException> due, Supplier<SledgePost> scene, Act act) {
        SledgePost post = scene.get();
        Due.fails(what, due, () -> act.on(post));
        Sentence.meanwhile(NO_TRACE, () -> leavesNoTrace(what, scene, act));
    }

    /** Each look is at an object of its own, so that none is used for more calls than the document allows. */
    private static void leavesNoTrace(String what, Supplier<SledgePost> scene, Act act) {
        Due.is(what + ", state", Posts.picture(scene.get()), Posts.picture(after(scene, act)));
        Due.is(what + ", texts", Posts.texts(scene.get()), Posts.texts(after(scene, act)));
        Due.is(what + ", changes", Posts.history(scene.get()), Posts.history(after(scene, act)));
        Due.is(what + ", next id", Posts.nextId(scene.get()), Posts.nextId(after(scene, act)));
    }

    static void ofEach(String what, Class<? extends RuntimeException> due, Supplier<SledgePost> scene, int[] values,
            ActWith act) {
        for (int value : values) {
            of(what + " " + value, due, scene, post -> act.on(post, value));
        }
    }

    private static SledgePost after(Supplier<SledgePost> scene, Act act) {
        SledgePost post = scene.get();
        Due.outcome(() -> act.on(post));
        return post;
    }

    /** Numbers outside a range, some of which would be inside if they were cut to 8 or 16 bits. */
    static int[] beyond(int least, int most) {
        return new int[] {least - 1, most + 1, least - 256, least + 256, most + 65536,
            Integer.MIN_VALUE, Integer.MAX_VALUE};
    }

    /** Numbers that are no index, where there are so many things. */
    static int[] outside(int count) {
        return beyond(0, count - 1);
    }
}
