/** Promise 11: object, and the instructions on objects. */
public final class ObjectsTest {
    private static final Check CHECK = new Check();

    public static void main(String[] args) {
        wrong();
        showing();
        sizes();
        priorities();
        modes();
        CHECK.end();
    }

    private static SceneCycle after(int... logic) {
        SceneCycle scene = Scenes.withLogic(logic);
        Scenes.plainCycle(scene);
        return scene;
    }

    private static void wrong() {
        SceneCycle scene = after(9, 3, 5, 6);
        int[] none = {-1, 4, Integer.MIN_VALUE, Integer.MAX_VALUE};
        for (int o : none) {
            CHECK.due("object " + o, -1, scene.object(o, 0));
        }
        int[] nothing = {-1, 8, Integer.MIN_VALUE, Integer.MAX_VALUE};
        for (int what : nothing) {
            CHECK.due("what " + what, -1, scene.object(3, what));
        }
        CHECK.due("object 3", "5,6", Scenes.place(scene, 3));
    }

    private static void showing() {
        SceneCycle scene = after(9, 2, 15, 11);
        CHECK.due("shown", 1, scene.object(2, Scenes.SHOWN));
        CHECK.due("place", "15,11", Scenes.place(scene, 2));
        CHECK.due("another one", 0, scene.object(1, Scenes.SHOWN));
        CHECK.due("another one's place", "0,0", Scenes.place(scene, 1));
        CHECK.due("a wide one", "13,4", Scenes.place(after(11, 1, 3, 1, 9, 1, 15, 4), 1));
        CHECK.due("a wide one", "13,4", Scenes.place(after(11, 1, 3, 1, 9, 1, 14, 4), 1));
        CHECK.due("a wide one", "13,4", Scenes.place(after(11, 1, 3, 1, 9, 1, 13, 4), 1));
        CHECK.due("a wide one", "12,4", Scenes.place(after(11, 1, 3, 1, 9, 1, 12, 4), 1));
        SceneCycle hidden = after(9, 1, 5, 6, 12, 1, 3, 10, 1);
        CHECK.due("hidden", 0, hidden.object(1, Scenes.SHOWN));
        CHECK.due("its place stays, without a motion", "5,6", Scenes.place(hidden, 1));
        CHECK.due("its direction stays", 3, hidden.object(1, Scenes.DIRECTION));
    }

    private static void sizes() {
        SceneCycle scene = after(9, 1, 15, 6, 11, 1, 4, 2);
        CHECK.due("width", 4, scene.object(1, Scenes.WIDTH));
        CHECK.due("height", 2, scene.object(1, Scenes.HEIGHT));
        CHECK.due("moved into the screen", "12,6", Scenes.place(scene, 1));
        CHECK.due("it fits", "12,6", Scenes.place(after(9, 1, 12, 6, 11, 1, 4, 2), 1));
        CHECK.due("smaller again", "12,6", Scenes.place(after(9, 1, 15, 6, 11, 1, 4, 1, 11, 1, 1, 1), 1));
        SceneCycle hidden = after(9, 1, 15, 6, 10, 1, 11, 1, 2, 3);
        CHECK.due("a hidden one likewise", "14,6", Scenes.place(hidden, 1));
        CHECK.due("height is not width", 3, hidden.object(1, Scenes.HEIGHT));
    }

    private static void priorities() {
        int[] byRow = {4, 4, 5, 6, 6, 7, 8, 8, 9, 10, 10, 11};
        for (int y = 0; y < 12; y++) {
            SceneCycle scene = after(9, 1, 5, y);
            CHECK.due("priority of row " + y, byRow[y], scene.object(1, Scenes.PRIORITY));
        }
        CHECK.due("rank", 4, after(9, 1, 5, 11, 16, 1, 4).object(1, Scenes.PRIORITY));
        CHECK.due("rank", 15, after(9, 1, 5, 0, 16, 1, 15).object(1, Scenes.PRIORITY));
        CHECK.due("no rank any more", 8, after(9, 1, 5, 6, 16, 1, 15, 16, 1, 0).object(1, Scenes.PRIORITY));
        CHECK.due("one not shown", 7, after(16, 1, 7).object(1, Scenes.PRIORITY));
    }

    private static void modes() {
        SceneCycle scene = after(12, 0, 8, 13, 1, 5, 6, 7, 14, 2, 7, 15, 3);
        int[] due = {0, 1, 2, 3};
        for (int o = 0; o < 4; o++) {
            CHECK.due("mode of " + o, due[o], scene.object(o, Scenes.MODE));
        }
        CHECK.due("direction", 8, scene.object(0, Scenes.DIRECTION));
        CHECK.due("no motion, no direction", 0, scene.object(3, Scenes.DIRECTION));
        SceneCycle free = after(15, 3, 12, 3, 5);
        CHECK.due("free again", 0, free.object(3, Scenes.MODE));
        CHECK.due("its direction", 5, free.object(3, Scenes.DIRECTION));
        SceneCycle still = after(12, 3, 5, 15, 3, 14, 3, 1, 13, 3, 1, 1, 1);
        CHECK.due("the latest mode", 1, still.object(3, Scenes.MODE));
        CHECK.due("the direction stays", 5, still.object(3, Scenes.DIRECTION));
    }
}
