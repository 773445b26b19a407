/** Promise 4: cycle: its refusals, steps, calls, OVERRUN and DEEP. */
public final class CycleTest {
    private static final Check CHECK = new Check();

    public static void main(String[] args) {
        refusals();
        noLogic();
        callsAndReturns();
        loops();
        overrun();
        deep();
        notLoadedIsNeverDeep();
        whatAnOverSceneKeeps();
        CHECK.end();
    }

    private static void refusals() {
        SceneCycle scene = Scenes.withLogic(2, 3, 1);
        int[][] wrong = {
            {-1, 0, 0}, {256, 0, 0}, {0, -1, 0}, {0, 9, 0}, {0, 0, -1}, {0, 0, 256},
            {Integer.MIN_VALUE, 0, 0}, {0, Integer.MAX_VALUE, 0}, {0, 0, Integer.MAX_VALUE}
        };
        scene.give(0, 9);
        String before = Scenes.state(scene);
        for (int[] call : wrong) {
            CHECK.due("refused", -1, scene.cycle(call[0], call[1], call[2]));
        }
        CHECK.due("nothing changed", before, Scenes.state(scene));
        CHECK.due("the greatest numbers", 1, scene.cycle(255, 8, 255));
        CHECK.due("one cycle", 1, scene.cycles());
        CHECK.due("one run", 1, scene.variable(3));
    }

    private static void noLogic() {
        SceneCycle scene = new SceneCycle(50);
        Scenes.addLoaded(scene, 2, 1, 2, 9);
        Scenes.putAll(scene, 1, 1, 3, 9);
        CHECK.due("nothing is run", 0, Scenes.plainCycle(scene));
        CHECK.due("logic 2 is not run by itself", 0, scene.variable(2));
        CHECK.due("logic 1 is not loaded yet", 0, scene.variable(3));
        scene.give(0, 7);
        CHECK.due("cycle", 0, Scenes.plainCycle(scene));
        CHECK.due("there is a motion", 0, scene.variable(0));
        scene.load(1);
        CHECK.due("loaded now", 1, Scenes.plainCycle(scene));
        CHECK.due("logic 1 is run", 9, scene.variable(3));
        SceneCycle empty = Scenes.withLogic();
        CHECK.due("an empty logic", 0, Scenes.plainCycle(empty));
    }

    private static void callsAndReturns() {
        SceneCycle scene = new SceneCycle(50);
        Scenes.addLoaded(scene, 1, 6, 2, 1, 3, 7, 6, 3, 1, 5, 8, 0, 1, 6, 9);
        Scenes.addLoaded(scene, 2, 1, 2, 9, 0, 1, 4, 9);
        Scenes.addLoaded(scene, 3, 1, 7, 4);
        CHECK.due("steps", 8, Scenes.plainCycle(scene));
        CHECK.due("the called logic", 9, scene.variable(2));
        CHECK.due("behind the CALL", 7, scene.variable(3));
        CHECK.due("behind its RETURN", 0, scene.variable(4));
        CHECK.due("a logic's end returns too", 4, scene.variable(7));
        CHECK.due("behind the second CALL", 8, scene.variable(5));
        CHECK.due("behind logic 1's RETURN", 0, scene.variable(6));
        CHECK.due("each cycle begins anew", 8, Scenes.plainCycle(scene));
        SceneCycle missing = Scenes.withLogic(6, 3, 1, 1, 1);
        CHECK.due("a CALL of no loaded logic", 2, Scenes.plainCycle(missing));
        CHECK.due("does nothing", 1, missing.variable(1));
    }

    private static void loops() {
        SceneCycle scene = Scenes.withLogic(2, 1, 1, 8, 1, 1, 5, 2, 7, 246);
        CHECK.due("a loop by GOTO", 14, Scenes.plainCycle(scene));
        CHECK.due("its counter", 5, scene.variable(1));
        SceneCycle forward = Scenes.withLogic(7, 3, 1, 1, 1, 1, 2, 2);
        CHECK.due("GOTO forward", 2, Scenes.plainCycle(forward));
        CHECK.due("left out", 0, forward.variable(1));
        CHECK.due("gone to", 2, forward.variable(2));
        SceneCycle toEnd = Scenes.withLogic(7, 3, 1, 1, 1);
        CHECK.due("GOTO the end", 1, Scenes.plainCycle(toEnd));
        CHECK.due("left out", 0, toEnd.variable(1));
        SceneCycle ifToEnd = Scenes.withLogic(8, 2, 9, 3, 1, 1, 1);
        CHECK.due("IF to the end", 1, Scenes.plainCycle(ifToEnd));
        ifToEnd.mark(9, true);
        CHECK.due("IF goes on", 2, Scenes.plainCycle(ifToEnd));
    }

    private static void overrun() {
        SceneCycle exact = new SceneCycle(16);
        Scenes.addLoaded(exact, 1, Scenes.repeat(16, 2, 1, 1));
        CHECK.due("as many as the limit", 16, Scenes.plainCycle(exact));
        CHECK.due("again", 16, Scenes.plainCycle(exact));
        SceneCycle more = new SceneCycle(16);
        Scenes.addLoaded(more, 1, Scenes.repeat(17, 2, 1, 1));
        CHECK.due("one more", -2, Scenes.plainCycle(more));
        CHECK.due("what was done stays", 16, more.variable(1));
        CHECK.due("steps", 16, more.steps());
        CHECK.due("over", -1, Scenes.plainCycle(more));
        CHECK.due("a refused cycle does not count", 1, more.cycles());
        SceneCycle called = new SceneCycle(16);
        Scenes.addLoaded(called, 1, 6, 2, 6, 2);
        Scenes.addLoaded(called, 2, Scenes.repeat(7, 4, 3));
        CHECK.due("steps of called logics count", 16, Scenes.plainCycle(called));
        SceneCycle calledMore = new SceneCycle(16);
        Scenes.addLoaded(calledMore, 1, 6, 2, 6, 2, 4, 3);
        Scenes.addLoaded(calledMore, 2, Scenes.repeat(7, 4, 3));
        CHECK.due("one more behind the calls", -2, Scenes.plainCycle(calledMore));
    }

    /** Logic 2 and 3 call one another; logic 2 calls no further once variable 1 is rounds. */
    private static SceneCycle mutualCalls(int rounds) {
        SceneCycle scene = new SceneCycle(50);
        Scenes.addLoaded(scene, 1, 6, 2);
        Scenes.addLoaded(scene, 2, 2, 1, 1, 8, 1, 1, rounds, 2, 6, 3);
        Scenes.addLoaded(scene, 3, 6, 2, 4, 7);
        return scene;
    }

    private static void deep() {
        SceneCycle four = mutualCalls(2);
        CHECK.due("four logics under way", 8, Scenes.plainCycle(four));
        CHECK.due("behind the calls", true, four.flag(7));
        SceneCycle five = mutualCalls(3);
        CHECK.due("five are too many", -3, Scenes.plainCycle(five));
        CHECK.due("the CALL is a step", 8, five.steps());
        CHECK.due("what was done stays", 2, five.variable(1));
        CHECK.due("what follows is not done", false, five.flag(7));
        CHECK.due("over", -1, Scenes.plainCycle(five));
        CHECK.due("it counts", 1, five.cycles());
    }

    private static void notLoadedIsNeverDeep() {
        SceneCycle scene = Scenes.withLogic(2, 1, 1, 8, 1, 1, 4, 2, 6, 1, 6, 3);
        CHECK.due("a CALL that does nothing", 15, Scenes.plainCycle(scene));
        scene.give(1, 0);
        Scenes.addLoaded(scene, 3);
        CHECK.due("the same with an empty logic", -3, Scenes.plainCycle(scene));
    }

    private static void whatAnOverSceneKeeps() {
        SceneCycle scene = Scenes.withLogic(9, 0, 5, 6, 8, 2, 4, 2, 7, 254);
        CHECK.due("a cycle", 2, scene.cycle(0, 5, 0));
        CHECK.due("moved", "5,7", Scenes.place(scene, 0));
        scene.mark(4, true);
        scene.give(0, 3);
        CHECK.due("overrun", -2, scene.cycle(0, 3, 0));
        CHECK.due("the key came before", 3, scene.object(0, Scenes.DIRECTION));
        CHECK.due("no motion", "5,6", Scenes.place(scene, 0));
        CHECK.due("no motion", 3, scene.variable(0));
        CHECK.due("cycles", 2, scene.cycles());
        String before = Scenes.state(scene);
        CHECK.due("over", -1, scene.cycle(0, 5, 0));
        CHECK.due("nothing changed", before, Scenes.state(scene));
        CHECK.due("give", true, scene.give(3, 4));
        CHECK.due("mark", true, scene.mark(5, true));
        CHECK.due("variable", 4, scene.variable(3));
        CHECK.due("flag", true, scene.flag(5));
        CHECK.due("load", 0, scene.load(2));
    }
}
