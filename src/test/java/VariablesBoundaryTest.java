/**
 * The boundary cases of VARIABLES and FLAGS, of the promises 7, variable, 8, give, 9, flag, and 10,
 * mark: a test of its own for each sentence.
 */
public final class VariablesBoundaryTest {
    private static final Check CHECK = new Check();

    public static void main(String[] args) {
        noSuchVariable();
        giveToNoVariable();
        giveNoByte();
        growing();
        becoming();
        copying();
        noSuchFlag();
        markNoFlag();
        settingFlags();
        atFirst();
        CHECK.end();
    }

    private static SceneCycle countedUp() {
        SceneCycle scene = new SceneCycle(50);
        for (int i = 0; i < 16; i++) {
            scene.give(i, 100 + i);
            scene.mark(i, true);
        }
        return scene;
    }

    private static void noSuchVariable() {
        CHECK.sentence("A variable; -1 when there is no such variable");
        SceneCycle scene = countedUp();
        CHECK.due("variable -1", -1, scene.variable(-1));
        for (int v = 0; v <= 15; v++) {
            CHECK.due("variable " + v, 100 + v, scene.variable(v));
        }
        CHECK.due("variable 16", -1, scene.variable(16));
        for (int far : Scenes.FAR) {
            CHECK.due("variable " + far, -1, scene.variable(far));
        }
    }

    private static void giveToNoVariable() {
        CHECK.sentence("False when there is no such variable");
        SceneCycle scene = countedUp();
        String before = Scenes.state(scene);
        CHECK.due("give to -1", false, scene.give(-1, 7));
        CHECK.due("give to 16", false, scene.give(16, 7));
        for (int far : Scenes.FAR) {
            CHECK.due("give to " + far, false, scene.give(far, 7));
        }
        CHECK.due("all is as before", before, Scenes.state(scene));
        CHECK.due("give to 0", true, scene.give(0, 7));
        CHECK.due("variable 0", 7, scene.variable(0));
        CHECK.due("variable 1", 101, scene.variable(1));
        CHECK.due("give to 15", true, scene.give(15, 8));
        CHECK.due("variable 15", 8, scene.variable(15));
        CHECK.due("variable 14", 114, scene.variable(14));
    }

    private static void giveNoByte() {
        CHECK.sentence("or n is not 0 .. 255");
        SceneCycle scene = countedUp();
        String before = Scenes.state(scene);
        for (int v = 0; v <= 15; v += 15) {
            CHECK.due("give -1", false, scene.give(v, -1));
            CHECK.due("give 256", false, scene.give(v, 256));
            for (int far : Scenes.FAR) {
                CHECK.due("give " + far, false, scene.give(v, far));
            }
        }
        CHECK.due("give neither", false, scene.give(16, 256));
        CHECK.due("all is as before", before, Scenes.state(scene));
        for (int v = 0; v <= 15; v += 15) {
            CHECK.due("give 0", true, scene.give(v, 0));
            CHECK.due("0", 0, scene.variable(v));
            CHECK.due("give 255", true, scene.give(v, 255));
            CHECK.due("255", 255, scene.variable(v));
        }
    }

    private static int grown(int from, int by) {
        SceneCycle scene = Scenes.withLogic(2, 15, by);
        scene.give(15, from);
        CHECK.due("cycle", 1, Scenes.plainCycle(scene));
        return scene.variable(15);
    }

    private static void growing() {
        CHECK.sentence("it grows by n, less 256 if it is above 255 then");
        CHECK.due("0 by 0", 0, grown(0, 0));
        CHECK.due("0 by 255", 255, grown(0, 255));
        CHECK.due("255 by 0", 255, grown(255, 0));
        CHECK.due("254 by 1", 255, grown(254, 1));
        CHECK.due("255 by 1", 0, grown(255, 1));
        CHECK.due("1 by 255", 0, grown(1, 255));
        CHECK.due("127 by 128", 255, grown(127, 128));
        CHECK.due("128 by 128", 0, grown(128, 128));
        CHECK.due("255 by 2", 1, grown(255, 2));
        CHECK.due("255 by 255", 254, grown(255, 255));
        SceneCycle twice = Scenes.withLogic(2, 15, 255, 2, 15, 255, 2, 15, 2);
        Scenes.plainCycle(twice);
        CHECK.due("0 by 255, 255 and 2", 0, twice.variable(15));
        CHECK.due("no other one grows", 0, twice.variable(14));
    }

    private static void becoming() {
        CHECK.sentence("1 v n: variable v becomes n");
        SceneCycle scene = Scenes.withLogic(1, 1, 0, 1, 15, 255);
        scene.give(1, 9);
        Scenes.plainCycle(scene);
        CHECK.due("0", 0, scene.variable(1));
        CHECK.due("255", 255, scene.variable(15));
        CHECK.due("variable 16", -3, Scenes.loadAnswer(1, 1, 16, 0));
    }

    private static void copying() {
        CHECK.sentence("3 v w: it becomes variable w");
        SceneCycle scene = Scenes.withLogic(3, 15, 0, 3, 1, 15, 3, 2, 2);
        scene.give(0, 255);
        scene.give(2, 8);
        Scenes.plainCycle(scene);
        CHECK.due("the last becomes the first", 255, scene.variable(15));
        CHECK.due("one becomes the last", 255, scene.variable(1));
        CHECK.due("one becomes itself", 8, scene.variable(2));
        CHECK.due("variable 16", -4, Scenes.loadAnswer(1, 3, 15, 16));
    }

    private static void noSuchFlag() {
        CHECK.sentence("Whether a flag is set; false when there is no such flag");
        SceneCycle scene = countedUp();
        CHECK.due("flag -1", false, scene.flag(-1));
        for (int f = 0; f <= 15; f++) {
            CHECK.due("flag " + f, true, scene.flag(f));
        }
        CHECK.due("flag 16", false, scene.flag(16));
        for (int far : Scenes.FAR) {
            CHECK.due("flag " + far, false, scene.flag(far));
        }
    }

    private static void markNoFlag() {
        CHECK.sentence("Flag f is set, or not set any more. False when there is no such flag");
        SceneCycle scene = countedUp();
        String before = Scenes.state(scene);
        int[] none = {-1, 16, Integer.MIN_VALUE, Integer.MAX_VALUE, 31, -16};
        for (int f : none) {
            CHECK.due("mark " + f, false, scene.mark(f, true));
            CHECK.due("mark off " + f, false, scene.mark(f, false));
            CHECK.due("flag " + f, false, scene.flag(f));
        }
        CHECK.due("all is as before", before, Scenes.state(scene));
        for (int f = 0; f <= 15; f += 15) {
            CHECK.due("mark off " + f, true, scene.mark(f, false));
            CHECK.due("flag " + f, false, scene.flag(f));
            CHECK.due("mark off again " + f, true, scene.mark(f, false));
            CHECK.due("mark " + f, true, scene.mark(f, true));
            CHECK.due("flag " + f, true, scene.flag(f));
            CHECK.due("mark again " + f, true, scene.mark(f, true));
        }
        CHECK.due("all is as before", before, Scenes.state(scene));
    }

    private static void settingFlags() {
        CHECK.sentence("4 f: flag f is set.   5 f: it is not set any more");
        SceneCycle scene = Scenes.withLogic(4, 0, 4, 15, 5, 1, 5, 14);
        scene.mark(1, true);
        scene.mark(14, true);
        Scenes.plainCycle(scene);
        CHECK.due("the first is set", true, scene.flag(0));
        CHECK.due("the last is set", true, scene.flag(15));
        CHECK.due("1 is not any more", false, scene.flag(1));
        CHECK.due("14 is not any more", false, scene.flag(14));
        CHECK.due("flag 16 is set", -3, Scenes.loadAnswer(1, 4, 16));
        CHECK.due("flag 16 is not set any more", -3, Scenes.loadAnswer(1, 5, 16));
    }

    private static void atFirst() {
        CHECK.sentence("VARIABLES 0 .. 15 hold 0 .. 255, FLAGS 0 .. 15 are set or not; at first 0 and not set");
        SceneCycle scene = new SceneCycle(50);
        for (int i = 0; i <= 15; i++) {
            CHECK.due("variable " + i, 0, scene.variable(i));
            CHECK.due("flag " + i, false, scene.flag(i));
        }
    }
}
