/**
 * The boundary cases of OBJECTS, of the instructions on them and of promise 11, object: a test of
 * its own for each sentence.
 */
public final class ObjectsBoundaryTest {
    private static final Check CHECK = new Check();

    public static void main(String[] args) {
        noSuchObject();
        noSuchNumber();
        shownAtAColumn();
        shownAtARow();
        shownNoMore();
        widthsAndHeights();
        widerThanItsPlace();
        directions();
        ranks();
        prioritiesByRow();
        ignoringOrNot();
        fourModes();
        latestMode();
        CHECK.end();
    }

    private static SceneCycle after(int... logic) {
        SceneCycle scene = Scenes.withLogic(logic);
        Scenes.plainCycle(scene);
        return scene;
    }

    private static void noSuchObject() {
        CHECK.sentence("-1 when there is no such object");
        SceneCycle scene = after(11, 0, 4, 4, 9, 0, 5, 11, 11, 3, 4, 4, 9, 3, 5, 10);
        int[][] due = {{5, 11, 0, 0, 11, 1, 4, 4}, {5, 10, 0, 0, 10, 1, 4, 4}};
        for (int what = 0; what <= 7; what++) {
            CHECK.due("object -1, " + what, -1, scene.object(-1, what));
            CHECK.due("object 0, " + what, due[0][what], scene.object(0, what));
            CHECK.due("object 3, " + what, due[1][what], scene.object(3, what));
            CHECK.due("object 4, " + what, -1, scene.object(4, what));
            for (int far : Scenes.FAR) {
                CHECK.due("object " + far, -1, scene.object(far, what));
            }
        }
    }

    private static void noSuchNumber() {
        CHECK.sentence("or for any other number");
        SceneCycle scene = after(11, 0, 4, 3, 9, 0, 5, 11);
        for (int o = 0; o <= 3; o++) {
            CHECK.due("number -1 of " + o, -1, scene.object(o, -1));
            CHECK.due("number 0 of " + o, o == 0 ? 5 : 0, scene.object(o, 0));
            CHECK.due("number 7 of " + o, o == 0 ? 3 : 1, scene.object(o, 7));
            CHECK.due("number 8 of " + o, -1, scene.object(o, 8));
            for (int far : Scenes.FAR) {
                CHECK.due("number " + far, -1, scene.object(o, far));
            }
        }
        CHECK.due("neither", -1, scene.object(4, 8));
    }

    private static void shownAtAColumn() {
        CHECK.sentence("shown, at (x, y), but at column 16 less its width if x is above that");
        for (int width = 1; width <= 4; width++) {
            for (int x = 0; x <= 15; x++) {
                SceneCycle scene = after(11, 2, width, 1, 9, 2, x, 6);
                int due = x > 16 - width ? 16 - width : x;
                CHECK.due("width " + width + " at " + x, due, scene.object(2, Scenes.X));
                CHECK.due("shown", 1, scene.object(2, Scenes.SHOWN));
            }
        }
        for (int o = 0; o <= 3; o++) {
            CHECK.due("column 15", 1, Scenes.loadAnswer(1, 9, o, 15, 11));
            CHECK.due("column 16", -4, Scenes.loadAnswer(1, 9, o, 16, 11));
        }
        CHECK.due("object 4", -3, Scenes.loadAnswer(1, 9, 4, 15, 11));
    }

    private static void shownAtARow() {
        CHECK.sentence("x y a column and a row");
        for (int y = 0; y <= 11; y++) {
            SceneCycle scene = after(11, 1, 1, 4, 9, 1, 5, y);
            CHECK.due("row " + y, "5," + y, Scenes.place(scene, 1));
        }
        CHECK.due("row 12", -5, Scenes.loadAnswer(1, 9, 1, 5, 12));
        SceneCycle again = after(9, 1, 5, 0, 9, 1, 0, 11);
        CHECK.due("shown again elsewhere", "0,11", Scenes.place(again, 1));
    }

    private static void shownNoMore() {
        CHECK.sentence("10 o: it is not shown any more");
        SceneCycle scene = after(9, 3, 15, 11, 16, 3, 15, 12, 3, 7, 10, 3, 10, 0);
        CHECK.due("not shown", 0, scene.object(3, Scenes.SHOWN));
        CHECK.due("its place stays", "15,11", Scenes.place(scene, 3));
        CHECK.due("its direction stays", 7, scene.object(3, Scenes.DIRECTION));
        CHECK.due("its priority stays", 15, scene.object(3, Scenes.PRIORITY));
        CHECK.due("one that was not shown before", 0, scene.object(0, Scenes.SHOWN));
        CHECK.due("object 4", -3, Scenes.loadAnswer(1, 10, 4));
    }

    private static void widthsAndHeights() {
        CHECK.sentence("11 o w h (1 .. 4 both): width and height");
        for (int width = 1; width <= 4; width++) {
            for (int height = 1; height <= 4; height++) {
                SceneCycle scene = after(11, 3, width, height);
                CHECK.due("width", width, scene.object(3, Scenes.WIDTH));
                CHECK.due("height", height, scene.object(3, Scenes.HEIGHT));
                CHECK.due("it is not shown by that", 0, scene.object(3, Scenes.SHOWN));
            }
        }
        CHECK.due("width 0", -4, Scenes.loadAnswer(1, 11, 3, 0, 1));
        CHECK.due("width 5", -4, Scenes.loadAnswer(1, 11, 3, 5, 4));
        CHECK.due("height 0", -5, Scenes.loadAnswer(1, 11, 3, 1, 0));
        CHECK.due("height 5", -5, Scenes.loadAnswer(1, 11, 3, 4, 5));
    }

    private static void widerThanItsPlace() {
        CHECK.sentence("x becomes 16 less the width if it is above that");
        for (int width = 1; width <= 4; width++) {
            for (int x = 11; x <= 15; x++) {
                SceneCycle shown = after(9, 2, x, 6, 11, 2, width, 1);
                int due = x > 16 - width ? 16 - width : x;
                CHECK.due("width " + width + " at " + x, due + ",6", Scenes.place(shown, 2));
                SceneCycle hidden = after(9, 2, x, 6, 10, 2, 11, 2, width, 1);
                CHECK.due("not shown, width " + width, due + ",6", Scenes.place(hidden, 2));
            }
        }
        SceneCycle narrow = after(9, 2, 15, 6, 11, 2, 4, 1, 11, 2, 1, 1);
        CHECK.due("narrow again", "12,6", Scenes.place(narrow, 2));
        CHECK.due("a height is no width", "15,0", Scenes.place(after(9, 2, 15, 0, 11, 2, 1, 4), 2));
        CHECK.due("nor does it change the row", "5,11", Scenes.place(after(9, 2, 5, 11, 11, 2, 4, 4), 2));
    }

    private static void directions() {
        CHECK.sentence("12 o d (0 .. 8): free, direction d");
        for (int d = 0; d <= 8; d++) {
            SceneCycle scene = after(15, 3, 12, 3, d);
            CHECK.due("direction " + d, d, scene.object(3, Scenes.DIRECTION));
            CHECK.due("free", 0, scene.object(3, Scenes.MODE));
        }
        CHECK.due("direction 9", -4, Scenes.loadAnswer(1, 12, 3, 9));
        CHECK.due("object 4", -3, Scenes.loadAnswer(1, 12, 4, 8));
    }

    private static void ranks() {
        CHECK.sentence("16 o r (0, or 4 .. 15): the rank");
        for (int r = 4; r <= 15; r++) {
            CHECK.due("rank " + r, r, after(9, 3, 0, 11, 16, 3, r).object(3, Scenes.PRIORITY));
        }
        CHECK.due("rank 0", 11, after(9, 3, 0, 11, 16, 3, 15, 16, 3, 0).object(3, Scenes.PRIORITY));
        for (int r = 0; r <= 255; r++) {
            boolean fits = r == 0 || r >= 4 && r <= 15;
            CHECK.due("rank " + r, fits ? 1 : -4, Scenes.loadAnswer(1, 16, 3, r));
        }
    }

    private static void prioritiesByRow() {
        CHECK.sentence("its rank, or, when that is 0, 4 + 11 * y / 16 (rounded down)");
        int[] due = {4, 4, 5, 6, 6, 7, 8, 8, 9, 10, 10, 11};
        for (int y = 0; y <= 11; y++) {
            CHECK.due("row " + y, due[y], after(9, 0, 15, y).object(0, Scenes.PRIORITY));
            CHECK.due("row " + y + ", not shown", due[y], after(9, 0, 15, y, 10, 0).object(0, Scenes.PRIORITY));
            CHECK.due("row " + y + ", rank 4", 4, after(9, 0, 15, y, 16, 0, 4).object(0, Scenes.PRIORITY));
        }
        SceneCycle moving = Scenes.played(Scenes.NO_PICTURE, 9, 0, 5, 10, 12, 0, 5);
        CHECK.due("with its step into row 11", 11, moving.object(0, Scenes.PRIORITY));
    }

    private static void ignoringOrNot() {
        CHECK.sentence("17 o b (0 or 1): ignoring if b is 1, else not");
        int[] line = {242, 1, 244, 6, 6, 255};
        int[] walk = {18, 9, 0, 5, 6, 12, 0, 3};
        CHECK.due("at first not", "5,6", Scenes.place(Scenes.played(line, walk), 0));
        CHECK.due("b is 1", "6,6",
                Scenes.place(Scenes.played(line, Scenes.join(walk, Scenes.bytes(17, 0, 1))), 0));
        CHECK.due("b is 0 behind it", "5,6",
                Scenes.place(Scenes.played(line, Scenes.join(walk, Scenes.bytes(17, 0, 1, 17, 0, 0))), 0));
        CHECK.due("another object's", "5,6",
                Scenes.place(Scenes.played(line, Scenes.join(walk, Scenes.bytes(17, 3, 1))), 0));
        CHECK.due("0", 1, Scenes.loadAnswer(1, 17, 3, 0));
        CHECK.due("1", 1, Scenes.loadAnswer(1, 17, 3, 1));
        CHECK.due("2", -4, Scenes.loadAnswer(1, 17, 3, 2));
        CHECK.due("255", -4, Scenes.loadAnswer(1, 17, 3, 255));
    }

    private static void fourModes() {
        CHECK.sentence("a MODE (0 free, 1 going, 2 following, 3 wandering)");
        for (int o = 0; o <= 3; o++) {
            CHECK.due("free at first", 0, new SceneCycle(50).object(o, Scenes.MODE));
            CHECK.due("going", 1, after(13, o, 15, 11, 15).object(o, Scenes.MODE));
            CHECK.due("wandering", 3, after(15, o).object(o, Scenes.MODE));
            CHECK.due("free again", 0, after(15, o, 12, o, 8).object(o, Scenes.MODE));
            if (o > 0) {
                CHECK.due("following", 2, after(14, o, 15).object(o, Scenes.MODE));
            }
        }
    }

    private static void latestMode() {
        CHECK.sentence("its flag and goal are those of the latest instruction that made it");
        SceneCycle scene = Scenes.played(Scenes.NO_PICTURE, 9, 1, 5, 6, 13, 1, 15, 11, 4, 13, 1, 5, 6, 15);
        CHECK.due("the earlier flag", false, scene.flag(4));
        CHECK.due("the latest flag", true, scene.flag(15));
        CHECK.due("it arrived", 0, scene.object(1, Scenes.MODE));
        SceneCycle following = Scenes.played(Scenes.NO_PICTURE, 9, 0, 5, 6, 9, 1, 7, 6,
                13, 1, 7, 6, 4, 14, 1, 5, 14, 1, 14);
        CHECK.due("the going one's flag", false, following.flag(4));
        CHECK.due("the earlier following one's flag", false, following.flag(5));
        CHECK.due("the latest following one's flag", true, following.flag(14));
        CHECK.sentence("A mode stays until 12 to 15 or an arrival changes it");
        SceneCycle stays = Scenes.played(Scenes.NO_PICTURE, 13, 1, 9, 6, 4, 9, 1, 5, 6, 11, 1, 2, 2,
                16, 1, 15, 17, 1, 1, 10, 1, 9, 1, 5, 6, 18);
        CHECK.due("still going", 1, stays.object(1, Scenes.MODE));
        CHECK.due("towards its goal", "6,6", Scenes.place(stays, 1));
    }
}
