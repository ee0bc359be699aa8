/** Posts in the midst of their work, for tests of what a call changes and what it leaves. */
final class Scenes {
    private Scenes() {
    }

    /**
     * Five stations, four of them in a row 5, 4 and 3 hours apart. Sledge 0 stands in 0 with the
     * letter 0 and has room for 6, sledge 1 travels to 1 with the letter 4 and has 5 hours left;
     * 1 and 2 wait in 0 and weigh 6 and 7, 5 waits in 3, and 3 is delivered. There are a snapshot,
     * more than 8 changes, an output text, half a script, and scripts that went wrong.
     */
    static SledgePost busy() {
        SledgePost post = atWork();
        write(post);
        return post;
    }

    /** The busy post with 7 stations, 3 sledges and 12 letters: 0, 1, 2 and 4 to 12. */
    static SledgePost full() {
        SledgePost post = atWork();
        post.addStation();
        post.addStation();
        post.addSledge(0, 5);
        for (int i = 0; i < 7; i++) {
            post.post(i % 2, 2 + i % 5, 1 + i, 10 * i, 5 + 5 * i);
        }
        write(post);
        return post;
    }

    /**
     * Six stations, the last one without roads, and numbers that all differ, so that one taken for
     * another shows. After 4 hours it is 3 degrees, and the post has paid 10 coins: sledge 0 stands
     * in 1 with the letter 1, sledge 1 travels to 2 with the letters 0 and 5 and has 6 hours left,
     * sledge 2 stands in 3; the letters 2 and 4 wait in 1, and 3 in 3; 4 is open.
     */
    static SledgePost town() {
        SledgePost post = Posts.withStations(6);
        post.setRoad(0, 1, 4);
        post.setRoad(1, 2, 6);
        post.setRoad(2, 3, 2);
        post.setRoad(0, 3, 9);
        post.setRoad(3, 4, 7);
        post.addSledge(1, 20);
        post.addSledge(0, 13);
        post.addSledge(3, 30);
        post.post(0, 2, 3, 41, 17);
        post.post(1, 3, 5, 60, 29);
        post.post(1, 0, 8, 72, 53);
        post.post(3, 4, 2, 15, 31);
        post.post(1, 4, 6, 33, 8);
        post.post(0, 3, 7, 25, 45);
        post.load(0, 1);
        post.load(1, 0);
        post.load(1, 5);
        post.send(1, 2);
        post.setTemperature(3);
        post.advance(4);
        return post;
    }

    static SledgePost fresh() {
        return new SledgePost();
    }

    private static SledgePost atWork() {
        SledgePost post = Posts.inARow();
        post.addSledge(0, 10);
        post.addSledge(2, 30);
        post.post(0, 1, 4, 30, 9);
        post.post(0, 4, 6, 20, 20);
        post.post(0, 3, 7, 25, 30);
        post.post(2, 3, 1, 9, 5);
        post.post(2, 0, 9, 50, 40);
        post.post(3, 0, 3, 7, 60);
        post.load(0, 0);
        post.load(1, 3);
        post.load(1, 4);
        post.save();
        post.setTemperature(1);
        post.send(1, 3);
        post.advance(3);
        post.send(1, 1);
        post.advance(2);
        return post;
    }

    private static void write(SledgePost post) {
        Posts.run(post, "stx");
        Posts.run(post, "wait;best 9");
        post.renderLetter(2);
        Posts.type(post, "wai");
    }
}
