/** Promise 4: the key, and the motion at a cycle's end. */
public final class MotionTest {
    private static final Check CHECK = new Check();

    public static void main(String[] args) {
        directions();
        edges();
        horizon();
        edgeVariable();
        barriers();
        wideBases();
        otherObjects();
        orderOfObjects();
        keys();
        CHECK.end();
    }

    private static void due(String what, String place, int direction, SceneCycle scene, int o) {
        CHECK.due(what + ": place", place, Scenes.place(scene, o));
        CHECK.due(what + ": direction", direction, scene.object(o, Scenes.DIRECTION));
    }

    private static void directions() {
        String[] places = {"5,6", "5,5", "6,5", "6,6", "6,7", "5,7", "4,7", "4,6", "4,5"};
        for (int d = 0; d <= 8; d++) {
            for (int o = 0; o < 4; o++) {
                SceneCycle scene = Scenes.played(Scenes.NO_PICTURE, 9, o, 5, 6, 12, o, d);
                due("direction " + d + " of " + o, places[d], d, scene, o);
            }
        }
        SceneCycle scene = Scenes.played(Scenes.NO_PICTURE, 9, 0, 5, 6, 12, 0, 3);
        Scenes.plainCycle(scene);
        due("it goes on", "7,6", 3, scene, 0);
    }

    private static void edges() {
        int[][] cases = {
            {0, 6, 7, 4}, {15, 6, 3, 2}, {5, 11, 5, 3}, {5, 3, 1, 1}, {0, 3, 8, 4}, {15, 3, 2, 2},
            {15, 11, 4, 2}, {0, 11, 6, 4}, {5, 11, 4, 3}, {5, 11, 6, 3}, {5, 3, 2, 1}, {5, 3, 8, 1}
        };
        for (int[] c : cases) {
            SceneCycle scene = Scenes.played(Scenes.NO_PICTURE, 9, 0, c[0], c[1], 12, 0, c[2]);
            String what = "edge " + c[3] + " by direction " + c[2];
            due(what, c[0] + "," + c[1], 0, scene, 0);
            CHECK.due(what, c[3], scene.variable(0));
            CHECK.due(what + ": mode", 0, scene.object(0, Scenes.MODE));
        }
        due("into the first column", "0,6", 7, Scenes.played(Scenes.NO_PICTURE, 9, 0, 1, 6, 12, 0, 7), 0);
        due("into the last column", "15,6", 3, Scenes.played(Scenes.NO_PICTURE, 9, 0, 14, 6, 12, 0, 3), 0);
        due("into the lowest row", "5,11", 5, Scenes.played(Scenes.NO_PICTURE, 9, 0, 5, 10, 12, 0, 5), 0);
        SceneCycle wide = Scenes.played(Scenes.NO_PICTURE, 11, 0, 3, 4, 9, 0, 12, 6, 12, 0, 3);
        due("a wide one moves", "13,6", 3, wide, 0);
        CHECK.due("no edge", 0, wide.variable(0));
        Scenes.plainCycle(wide);
        due("and touches", "13,6", 0, wide, 0);
        CHECK.due("edge 2", 2, wide.variable(0));
    }

    private static void horizon() {
        due("to row 3", "5,3", 1, Scenes.played(Scenes.NO_PICTURE, 9, 0, 5, 4, 12, 0, 1), 0);
        due("from row 2 to row 3", "5,3", 5, Scenes.played(Scenes.NO_PICTURE, 9, 0, 5, 2, 12, 0, 5), 0);
        SceneCycle down = Scenes.played(Scenes.NO_PICTURE, 9, 0, 5, 1, 12, 0, 5);
        due("from row 1 to row 2", "5,1", 0, down, 0);
        CHECK.due("edge 1", 1, down.variable(0));
        SceneCycle along = Scenes.played(Scenes.NO_PICTURE, 9, 0, 5, 2, 12, 0, 3);
        due("along row 2", "5,2", 0, along, 0);
        CHECK.due("edge 1", 1, along.variable(0));
        SceneCycle still = Scenes.played(Scenes.NO_PICTURE, 9, 0, 5, 0);
        CHECK.due("standing touches nothing", 0, still.variable(0));
    }

    private static void edgeVariable() {
        SceneCycle scene = Scenes.played(Scenes.NO_PICTURE, 9, 0, 15, 6, 12, 0, 3);
        CHECK.due("edge 2", 2, scene.variable(0));
        Scenes.plainCycle(scene);
        CHECK.due("the next cycle", 0, scene.variable(0));
        SceneCycle other = Scenes.played(Scenes.NO_PICTURE, 9, 1, 15, 6, 12, 1, 3, 9, 0, 5, 6);
        due("another object's edge", "15,6", 0, other, 1);
        CHECK.due("does not tell", 0, other.variable(0));
        SceneCycle hidden = Scenes.played(Scenes.NO_PICTURE, 9, 0, 15, 6, 12, 0, 3, 10, 0, 1, 0, 9);
        due("not shown", "15,6", 3, hidden, 0);
        CHECK.due("no edge", 0, hidden.variable(0));
    }

    /** A picture whose column 8 has that control. */
    private static int[] wall(int control) {
        return Scenes.bytes(242, control, 244, 8, 3, 8, 11, 255);
    }

    private static boolean passes(int control, int... instructions) {
        int[] before = {18, 9, 0, 7, 6, 12, 0, 3};
        SceneCycle scene = Scenes.played(wall(control), Scenes.join(before, instructions));
        boolean moved = Scenes.place(scene, 0).equals("8,6");
        due("wall of " + control, moved ? "8,6" : "7,6", moved ? 3 : 0, scene, 0);
        CHECK.due("no edge", 0, scene.variable(0));
        return moved;
    }

    private static void barriers() {
        for (int control = 0; control < 16; control++) {
            CHECK.due("control " + control, control > 1, passes(control));
        }
        CHECK.due("control 0, ignoring", false, passes(0, 17, 0, 1));
        CHECK.due("control 1, ignoring", true, passes(1, 17, 0, 1));
        CHECK.due("control 1, not ignoring any more", false, passes(1, 17, 0, 1, 17, 0, 0));
        CHECK.due("control 0, rank 15", true, passes(0, 16, 0, 15));
        CHECK.due("control 1, rank 15", true, passes(1, 16, 0, 15));
        CHECK.due("control 0, rank 14", false, passes(0, 16, 0, 14));
        CHECK.due("control 1, rank 14, ignoring", true, passes(1, 16, 0, 14, 17, 0, 1));
        CHECK.due("control 0, rank 15 no more", false, passes(0, 16, 0, 15, 16, 0, 0));
        SceneCycle on = Scenes.played(wall(0), 18, 9, 0, 8, 6, 12, 0, 3);
        due("off a barrier", "9,6", 3, on, 0);
        SceneCycle along = Scenes.played(wall(0), 18, 9, 0, 8, 6, 12, 0, 5);
        due("along a barrier", "8,6", 0, along, 0);
        SceneCycle slanting = Scenes.played(wall(0), 18, 9, 0, 7, 6, 12, 0, 2);
        due("slanting into it", "7,6", 0, slanting, 0);
        SceneCycle other = Scenes.played(wall(0), 18, 9, 3, 7, 6, 12, 3, 4);
        due("another object", "7,6", 0, other, 3);
    }

    private static void wideBases() {
        SceneCycle scene = Scenes.played(wall(0), 18, 11, 0, 3, 4, 9, 0, 4, 6, 12, 0, 3);
        due("before the wall", "5,6", 3, scene, 0);
        Scenes.plainCycle(scene);
        due("its right cell is stopped", "5,6", 0, scene, 0);
        SceneCycle left = Scenes.played(wall(1), 18, 11, 0, 3, 4, 9, 0, 9, 6, 12, 0, 7);
        due("its left cell is stopped", "9,6", 0, left, 0);
        SceneCycle middle = Scenes.played(wall(1), 18, 11, 0, 3, 4, 9, 0, 7, 6, 12, 0, 5);
        due("its middle cell is stopped", "7,6", 0, middle, 0);
        int[] roof = {242, 0, 244, 0, 5, 15, 5, 255};
        SceneCycle tall = Scenes.played(roof, 18, 11, 0, 1, 4, 9, 0, 4, 7, 12, 0, 3);
        due("only the base is stopped", "5,7", 3, tall, 0);
        SceneCycle oneOfEach = Scenes.played(Scenes.bytes(242, 1, 244, 8, 6, 242, 0, 244, 9, 6, 255),
                18, 11, 0, 2, 1, 9, 0, 8, 7, 12, 0, 1, 17, 0, 1);
        due("ignoring only one of the cells", "8,7", 0, oneOfEach, 0);
    }

    private static void otherObjects() {
        due("before another one", "5,6", 0, Scenes.played(Scenes.NO_PICTURE, 9, 0, 5, 6, 9, 1, 6, 6, 12, 0, 3), 0);
        due("before a hidden one", "6,6", 3,
                Scenes.played(Scenes.NO_PICTURE, 9, 0, 5, 6, 9, 1, 6, 6, 10, 1, 12, 0, 3), 0);
        due("one in another row", "6,6", 3,
                Scenes.played(Scenes.NO_PICTURE, 9, 0, 5, 6, 11, 1, 1, 4, 9, 1, 6, 7, 12, 0, 3), 0);
        due("rank 15 and ignoring do not help", "5,6", 0,
                Scenes.played(Scenes.NO_PICTURE, 9, 0, 5, 6, 9, 1, 6, 6, 12, 0, 3, 16, 0, 15, 17, 0, 1), 0);
        due("a wide one's right cell", "5,6", 0,
                Scenes.played(Scenes.NO_PICTURE, 11, 0, 2, 1, 9, 0, 5, 6, 9, 1, 7, 6, 12, 0, 3), 0);
        due("a cell between", "6,6", 3,
                Scenes.played(Scenes.NO_PICTURE, 11, 0, 2, 1, 9, 0, 5, 6, 9, 1, 8, 6, 12, 0, 3), 0);
        due("another wide one's right cell", "9,6", 0,
                Scenes.played(Scenes.NO_PICTURE, 11, 1, 4, 1, 9, 1, 5, 6, 9, 0, 9, 6, 12, 0, 7), 0);
        due("beside another wide one", "9,6", 7,
                Scenes.played(Scenes.NO_PICTURE, 11, 1, 4, 1, 9, 1, 5, 6, 9, 0, 10, 6, 12, 0, 7), 0);
        due("over a narrow one", "5,6", 0,
                Scenes.played(Scenes.NO_PICTURE, 11, 0, 4, 1, 9, 0, 5, 6, 9, 1, 6, 5, 12, 0, 1), 0);
        due("away from the same place", "6,6", 3,
                Scenes.played(Scenes.NO_PICTURE, 9, 0, 5, 6, 9, 1, 5, 6, 12, 0, 3), 0);
        due("every other one counts", "5,6", 0,
                Scenes.played(Scenes.NO_PICTURE, 9, 1, 5, 6, 9, 3, 6, 6, 12, 1, 3), 1);
        due("the first one too", "5,6", 0,
                Scenes.played(Scenes.NO_PICTURE, 9, 1, 5, 6, 9, 0, 6, 6, 12, 1, 3), 1);
    }

    private static void orderOfObjects() {
        SceneCycle scene = Scenes.played(Scenes.NO_PICTURE, 9, 0, 5, 6, 12, 0, 3, 9, 1, 6, 6, 12, 1, 3);
        due("the first is stopped by the second", "5,6", 0, scene, 0);
        due("the second moves", "7,6", 3, scene, 1);
        scene = Scenes.played(Scenes.NO_PICTURE, 9, 1, 5, 6, 12, 1, 3, 9, 0, 6, 6, 12, 0, 3);
        due("the first makes room", "7,6", 3, scene, 0);
        due("for the second", "6,6", 3, scene, 1);
        scene = Scenes.played(Scenes.NO_PICTURE, 9, 0, 5, 6, 12, 0, 3, 9, 3, 7, 6, 12, 3, 7);
        due("the first comes first", "6,6", 3, scene, 0);
        due("the last one is stopped", "7,6", 0, scene, 3);
    }

    private static void keys() {
        SceneCycle scene = Scenes.onceOnly(Scenes.NO_PICTURE, 9, 0, 5, 6);
        scene.cycle(0, 3, 0);
        due("key 3", "6,6", 3, scene, 0);
        scene.cycle(0, 0, 0);
        due("no key", "7,6", 3, scene, 0);
        scene.cycle(0, 3, 0);
        due("key 3 again", "7,6", 0, scene, 0);
        scene.cycle(0, 5, 0);
        due("key 5", "7,7", 5, scene, 0);
        scene.cycle(0, 8, 0);
        due("key 8", "6,6", 8, scene, 0);

        SceneCycle hidden = new SceneCycle(50);
        hidden.cycle(0, 4, 0);
        due("a hidden object 0", "0,0", 4, hidden, 0);
        CHECK.due("the others have no key", 0, hidden.object(1, Scenes.DIRECTION));

        SceneCycle logic = Scenes.withLogic(9, 0, 5, 6, 12, 0, 7);
        logic.cycle(0, 3, 0);
        due("the logic comes after the key", "4,6", 7, logic, 0);

        SceneCycle going = Scenes.onceOnly(Scenes.NO_PICTURE, 9, 0, 5, 6, 13, 0, 9, 6, 4);
        Scenes.plainCycle(going);
        going.cycle(0, 5, 0);
        due("a going object 0", "7,6", 3, going, 0);
    }
}
