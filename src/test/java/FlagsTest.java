/** Promises 9 and 10: flag and mark, and the instructions on flags. */
public final class FlagsTest {
    private static final Check CHECK = new Check();

    public static void main(String[] args) {
        marked();
        wrong();
        byLogic();
        CHECK.end();
    }

    private static void marked() {
        SceneCycle scene = new SceneCycle(50);
        for (int f = 0; f < 16; f += 3) {
            CHECK.due("mark", true, scene.mark(f, true));
        }
        for (int f = 0; f < 16; f++) {
            CHECK.due("flag " + f, f % 3 == 0, scene.flag(f));
        }
        CHECK.due("mark off", true, scene.mark(15, false));
        CHECK.due("flag 15", false, scene.flag(15));
        CHECK.due("mark off again", true, scene.mark(15, false));
        CHECK.due("mark on again", true, scene.mark(0, true));
        CHECK.due("flag 0", true, scene.flag(0));
    }

    private static void wrong() {
        SceneCycle scene = new SceneCycle(50);
        String before = Scenes.state(scene);
        int[] none = {-1, 16, Integer.MIN_VALUE, Integer.MAX_VALUE};
        for (int f : none) {
            CHECK.due("mark " + f, false, scene.mark(f, true));
            CHECK.due("mark off " + f, false, scene.mark(f, false));
            CHECK.due("flag " + f, false, scene.flag(f));
        }
        CHECK.due("nothing changed", before, Scenes.state(scene));
    }

    private static void byLogic() {
        SceneCycle scene = Scenes.withLogic(4, 15, 5, 14, 4, 13, 5, 13);
        scene.mark(14, true);
        CHECK.due("cycle", 4, Scenes.plainCycle(scene));
        CHECK.due("set", true, scene.flag(15));
        CHECK.due("not set any more", false, scene.flag(14));
        CHECK.due("set and not set any more", false, scene.flag(13));
    }
}
