/** Makes posts for tests, and reads what they show. */
final class Posts {
    private Posts() {
    }

    static SledgePost withStations(int count) {
        SledgePost post = new SledgePost();
        for (int i = 0; i < count; i++) {
            post.addStation();
        }
        return post;
    }

    /** Four stations in a row, 5, 4 and 3 hours apart, and a fifth one without a road. */
    static SledgePost inARow() {
        SledgePost post = withStations(5);
        post.setRoad(0, 1, 5);
        post.setRoad(1, 2, 4);
        post.setRoad(2, 3, 3);
        return post;
    }

    static void type(SledgePost post, String text) {
        for (char sign : text.toCharArray()) {
            post.type(sign);
        }
    }

    static Object run(SledgePost post, String script) {
        type(post, script);
        return Due.outcome(post::runScript);
    }

    static String output(SledgePost post, int length) {
        StringBuilder text = new StringBuilder();
        for (int i = 0; i < length; i++) {
            text.append(post.outputAt(i));
        }
        return text.toString();
    }

    static String sledge(SledgePost post, int sledge) {
        return output(post, post.renderSledge(sledge));
    }

    static String letter(SledgePost post, int letter) {
        return output(post, post.renderLetter(letter));
    }

    /** Everything that undo and the snapshot cover, but for the id of the next letter. */
    static String picture(SledgePost post) {
        StringBuilder text = new StringBuilder();
        text.append(post.time()).append(' ').append(post.temperature()).append(' ').append(post.coins());
        text.append(' ').append(post.coinsByAccounts()).append(' ').append(post.deliveredTotal());
        text.append(" stations ").append(post.stationCount());
        for (int first = 0; first < post.stationCount(); first++) {
            for (int second = 0; second < post.stationCount(); second++) {
                text.append(' ').append(post.road(first, second));
            }
        }
        for (int i = 0; i < post.sledgeCount(); i++) {
            text.append(" | ").append(sledge(post, i));
        }
        for (int i = 0; i < post.letterCount(); i++) {
            int id = post.letterAt(i);
            text.append(" | ").append(letter(post, id)).append(" in ");
            text.append(Due.outcome(() -> post.stationOfLetter(id)));
        }
        return text.toString();
    }

    /** What undo and the snapshot do not cover: the output text, the positions, the length of the buffer. */
    static String texts(SledgePost post) {
        StringBuilder text = new StringBuilder();
        for (int i = 0; i < 100 && Due.outcome(charAt(post, i)) instanceof Character sign; i++) {
            text.append(sign);
        }
        text.append(" error ").append(Due.outcome(post::errorPosition));
        text.append(" failed ").append(Due.outcome(post::failedCommand));
        text.append(" typed ").append(Due.outcome(() -> post.type(' ')));
        return text.toString();
    }

    private static Due.Call charAt(SledgePost post, int index) {
        return () -> post.outputAt(index);
    }

    /** What can be undone, and what the snapshot holds. */
    static String history(SledgePost post) {
        StringBuilder text = new StringBuilder();
        // Once more than what can be undone, so that the refusal is seen too.
        for (int i = 0; i < 9; i++) {
            text.append(Due.outcome(post::undo)).append(':').append(brief(post)).append(' ');
        }
        text.append(" snapshot ").append(Due.outcome(post::restore));
        return text.append(' ').append(picture(post)).toString();
    }

    private static String brief(SledgePost post) {
        return post.stationCount() + "," + post.sledgeCount() + "," + post.letterCount() + "," + post.time() + ","
                + post.temperature() + "," + post.coins() + "," + post.deliveredTotal();
    }

    static Object nextId(SledgePost post) {
        return Due.outcome(() -> post.post(0, 1, 1, 1, 1));
    }
}
