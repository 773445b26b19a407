/** Promises 7 and 8: variable and give, and the instructions on variables. */
public final class VariablesTest {
    private static final Check CHECK = new Check();

    public static void main(String[] args) {
        given();
        wrong();
        byLogic();
        CHECK.end();
    }

    private static void given() {
        SceneCycle scene = new SceneCycle(50);
        for (int v = 0; v < 16; v++) {
            CHECK.due("give", true, scene.give(v, 255 - v));
        }
        for (int v = 0; v < 16; v++) {
            CHECK.due("variable " + v, 255 - v, scene.variable(v));
        }
        CHECK.due("give 0", true, scene.give(15, 0));
        CHECK.due("variable 15", 0, scene.variable(15));
        CHECK.due("no cycle", 0, scene.cycles());
    }

    private static void wrong() {
        SceneCycle scene = new SceneCycle(50);
        int[] none = {-1, 16, Integer.MIN_VALUE, Integer.MAX_VALUE};
        String before = Scenes.state(scene);
        for (int v : none) {
            CHECK.due("variable " + v, -1, scene.variable(v));
            CHECK.due("give to " + v, false, scene.give(v, 1));
        }
        int[] numbers = {-1, 256, Integer.MIN_VALUE, Integer.MAX_VALUE};
        for (int n : numbers) {
            CHECK.due("give " + n, false, scene.give(3, n));
        }
        CHECK.due("nothing changed", before, Scenes.state(scene));
    }

    private static void byLogic() {
        SceneCycle scene = Scenes.withLogic(1, 1, 200, 2, 2, 56, 2, 3, 55, 2, 4, 255, 3, 5, 1, 3, 15, 6);
        scene.give(2, 200);
        scene.give(3, 200);
        scene.give(4, 255);
        scene.give(6, 66);
        CHECK.due("cycle", 6, Scenes.plainCycle(scene));
        CHECK.due("becomes", 200, scene.variable(1));
        CHECK.due("200 + 56", 0, scene.variable(2));
        CHECK.due("200 + 55", 255, scene.variable(3));
        CHECK.due("255 + 255", 254, scene.variable(4));
        CHECK.due("copied", 200, scene.variable(5));
        CHECK.due("copied", 66, scene.variable(15));
        CHECK.due("the other one stays", 66, scene.variable(6));
        SceneCycle zero = Scenes.withLogic(1, 0, 9, 3, 1, 0);
        Scenes.plainCycle(zero);
        CHECK.due("variable 0 in the logic", 9, zero.variable(1));
        CHECK.due("variable 0 after the motion", 0, zero.variable(0));
    }
}
