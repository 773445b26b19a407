/** Promise 1: a new object; a test of its own for each sentence. */
public final class NewObjectTest {
    private static final Check CHECK = new Check();

    public static void main(String[] args) {
        noBytes();
        nothingLoaded();
        nothingDone();
        leastLimit();
        greatestLimit();
        limitsBetween();
        apart();
        CHECK.end();
    }

    private static void noBytes() {
        CHECK.sentence("An empty scene: no bytes, nothing loaded");
        SceneCycle scene = new SceneCycle(50);
        for (int r = 0; r < 4; r++) {
            CHECK.due("resource " + r + " is empty", 1, scene.put(r, 255, 1));
        }
        CHECK.due("an empty picture is at fault", -2, new SceneCycle(50).load(0));
        for (int r = 1; r < 4; r++) {
            CHECK.due("an empty logic has no instruction", 0, new SceneCycle(50).load(r));
        }
    }

    private static void nothingLoaded() {
        CHECK.sentence("An empty scene: no bytes, nothing loaded");
        SceneCycle scene = new SceneCycle(50);
        CHECK.due("no logic is run", 0, Scenes.plainCycle(scene));
        CHECK.due("no step", 0, scene.steps());
        CHECK.due("one cycle", 1, scene.cycles());
        for (int r = 1; r < 4; r++) {
            CHECK.due("logic " + r + " was not loaded", 0, scene.load(r));
        }
    }

    private static void nothingDone() {
        CHECK.sentence("at first 0 and not set ... at first place (0, 0), width and height 1, the rest 0 or not");
        SceneCycle scene = new SceneCycle(50);
        CHECK.due("cycles", 0, scene.cycles());
        CHECK.due("steps", 0, scene.steps());
        for (int i = 0; i < 16; i++) {
            CHECK.due("variable " + i, 0, scene.variable(i));
            CHECK.due("flag " + i, false, scene.flag(i));
        }
        for (int o = 0; o < 4; o++) {
            int[] due = {0, 0, 0, 0, 4, 0, 1, 1};
            for (int what = 0; what < due.length; what++) {
                CHECK.due("object " + o + " " + what, due[what], scene.object(o, what));
            }
        }
        CHECK.due("colours", Scenes.rows('f'), Scenes.layerOf(scene, 0));
        CHECK.due("controls", Scenes.rows('4'), Scenes.layerOf(scene, 1));
        CHECK.due("seen", Scenes.rows('f'), Scenes.seenAll(new SceneCycle(50)));
    }

    /** An endless loop and one of a given number of steps tell what the limit is. */
    private static void limitIs(int limit, int given) {
        SceneCycle endless = new SceneCycle(given);
        Scenes.addLoaded(endless, 1, 7, 254);
        CHECK.due("limit " + given + " is overrun", -2, Scenes.plainCycle(endless));
        CHECK.due("limit " + given, limit, endless.steps());
        CHECK.due("limit " + given + ", as many", limit, stepping(given, limit));
        CHECK.due("limit " + given + ", one more", -2, stepping(given, limit + 1));
    }

    /** What a cycle of that many steps answers: three steps for each round, and some behind them. */
    private static int stepping(int given, int steps) {
        SceneCycle scene = new SceneCycle(given);
        // The last round leaves the loop behind its second step.
        int rounds = (steps - 2) / 3;
        int rest = (steps - 2) % 3;
        int[] loop = {2, 9, 1, 8, 5, 0, 9, rounds + 1, 2, 7, 245};
        Scenes.addLoaded(scene, 1, Scenes.join(loop, Scenes.repeat(rest, 4, 3)));
        return Scenes.plainCycle(scene);
    }

    private static void leastLimit() {
        CHECK.sentence("16 if that is below 16");
        limitIs(16, Integer.MIN_VALUE);
        limitIs(16, -200);
        limitIs(16, -1);
        limitIs(16, 0);
        limitIs(16, 15);
        limitIs(16, 16);
        limitIs(17, 17);
    }

    private static void greatestLimit() {
        CHECK.sentence("200 if it is above 200");
        limitIs(199, 199);
        limitIs(200, 200);
        limitIs(200, 201);
        limitIs(200, 256);
        limitIs(200, Integer.MAX_VALUE);
    }

    private static void limitsBetween() {
        CHECK.sentence("The limit is limit");
        for (int limit = 16; limit <= 200; limit++) {
            limitIs(limit, limit);
        }
    }

    private static void apart() {
        CHECK.sentence("An empty scene: no bytes, nothing loaded");
        SceneCycle first = Scenes.withLogic(4, 3, 1, 3, 9, 9, 1, 5, 6, 12, 0, 8);
        Scenes.plainCycle(first);
        SceneCycle second = new SceneCycle(50);
        CHECK.due("another one's cycles", 0, second.cycles());
        CHECK.due("another one's variables", 0, second.variable(3));
        CHECK.due("another one's flags", false, second.flag(3));
        CHECK.due("another one's objects", 0, second.object(1, Scenes.X));
        CHECK.due("another one's logic", 0, Scenes.plainCycle(second));
    }
}
