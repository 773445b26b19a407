/** Promise 13: seen. */
public final class SeenTest {
    private static final Check CHECK = new Check();

    public static void main(String[] args) {
        wrong();
        covering();
        ofSeveral();
        depths();
        seenThrough();
        CHECK.end();
    }

    private static void wrong() {
        SceneCycle scene = new SceneCycle(50);
        int[] none = {-1, 16, Integer.MIN_VALUE, Integer.MAX_VALUE};
        for (int i : none) {
            CHECK.due("column " + i, -1, scene.seen(i, 0));
            CHECK.due("row " + i, -1, scene.seen(0, i));
        }
        CHECK.due("row 12", -1, scene.seen(0, 12));
        CHECK.due("the last cell", 15, scene.seen(15, 11));
        CHECK.due("no objects", Scenes.rows('f'), Scenes.seenAll(scene));
    }

    private static void covering() {
        CHECK.due("width and height", Scenes.rows('f', "f", "f", "f", "f", "fffCC", "fffCC", "fffCC"),
                Scenes.seenAll(Scenes.played(Scenes.NO_PICTURE, 11, 2, 2, 3, 9, 2, 3, 6)));
        CHECK.due("out of the screen above", Scenes.rows('f', "AAAA", "AAAA"),
                Scenes.seenAll(Scenes.played(Scenes.NO_PICTURE, 11, 0, 4, 4, 9, 0, 0, 1)));
        CHECK.due("hidden", Scenes.rows('f'), Scenes.seenAll(Scenes.played(Scenes.NO_PICTURE, 9, 0, 5, 6, 10, 0)));
        SceneCycle corner = Scenes.played(Scenes.NO_PICTURE, 9, 3, 15, 11);
        CHECK.due("in the corner", 19, corner.seen(15, 11));
    }

    private static int frontOf(int... instructions) {
        return Scenes.played(Scenes.NO_PICTURE, instructions).seen(5, 6);
    }

    private static void ofSeveral() {
        CHECK.due("the lower row's priority", 16, frontOf(11, 0, 1, 4, 9, 0, 5, 9, 9, 1, 5, 6));
        CHECK.due("the lower row's priority", 17, frontOf(11, 1, 1, 4, 9, 1, 5, 9, 9, 0, 5, 6));
        CHECK.due("a rank", 17, frontOf(11, 0, 1, 4, 9, 0, 5, 9, 9, 1, 5, 6, 16, 1, 14));
        CHECK.due("a low rank", 17, frontOf(11, 0, 1, 4, 9, 0, 5, 9, 9, 1, 5, 6, 16, 0, 4));
        CHECK.due("the same rank: the lower place", 16,
                frontOf(11, 0, 1, 4, 9, 0, 5, 9, 9, 1, 5, 6, 16, 0, 9, 16, 1, 9));
        CHECK.due("the same by row: the lower place", 16, frontOf(11, 0, 1, 2, 9, 0, 5, 7, 9, 1, 5, 6));
        CHECK.due("the same place: the greater number", 18, frontOf(9, 0, 5, 6, 9, 2, 5, 6, 9, 1, 5, 6));
        CHECK.due("only those that are shown", 17, frontOf(9, 0, 5, 6, 9, 2, 5, 6, 9, 1, 5, 6, 10, 2));
        CHECK.due("only those that cover it", 16, frontOf(9, 0, 5, 6, 9, 2, 6, 6, 9, 1, 4, 6));
    }

    private static void depths() {
        int[] post = {240, 1, 242, 10, 244, 3, 5, 255};
        SceneCycle scene = Scenes.played(post, 18, 11, 0, 1, 3, 9, 0, 3, 6);
        CHECK.due("in front of control 4", 16, scene.seen(3, 6));
        CHECK.due("behind control 10", 1, scene.seen(3, 5));
        CHECK.due("above it", 16, scene.seen(3, 4));
        CHECK.due("priority below by one", 1,
                Scenes.played(post, 18, 11, 0, 1, 3, 9, 0, 3, 6, 16, 0, 9).seen(3, 5));
        CHECK.due("the same priority", 16,
                Scenes.played(post, 18, 11, 0, 1, 3, 9, 0, 3, 6, 16, 0, 10).seen(3, 5));
        CHECK.due("the one that is not below it", 17,
                Scenes.played(post, 18, 9, 1, 3, 5, 16, 1, 11, 9, 0, 3, 5).seen(3, 5));
    }

    private static void seenThrough() {
        int[] picture = {
            240, 6, 242, 12, 244, 3, 8, 242, 0, 244, 3, 5, 242, 1, 244, 3, 6, 242, 3, 244, 3, 7,
            242, 2, 244, 9, 4, 9, 11, 255
        };
        SceneCycle scene = Scenes.played(picture, 18, 11, 0, 1, 4, 9, 0, 3, 7, 11, 1, 1, 4, 9, 1, 9, 11);
        for (int y = 5; y <= 7; y++) {
            CHECK.due("the depth of the cell below, row " + y, 6, scene.seen(3, y));
        }
        CHECK.due("above: control 4", 16, scene.seen(3, 4));
        for (int y = 8; y <= 11; y++) {
            CHECK.due("none below: 4, row " + y, 17, scene.seen(9, y));
        }
        SceneCycle low = Scenes.played(picture, 18, 9, 2, 9, 7, 16, 2, 4);
        CHECK.due("rank 4 is not below 4", 18, low.seen(9, 7));
        CHECK.due("the colour", 6, low.seen(9, 8));
    }
}
