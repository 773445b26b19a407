/**
 * The boundary cases of CYCLE and of the promises 4, cycle, 5, cycles, and 6, steps: a test of its
 * own for each sentence.
 */
public final class CycleBoundaryTest {
    private static final Check CHECK = new Check();

    public static void main(String[] args) {
        words();
        noWord();
        keys();
        lucks();
        keyThatIsTheDirection();
        keyOfOneThatIsNotFree();
        logicThatIsNotLoaded();
        behindItsCall();
        logicOneItself();
        callOfNoLoadedLogic();
        overrun();
        overrunInACalledLogic();
        deep();
        overrunOrDeep();
        whatWasDoneStays();
        noMotion();
        noFurtherCycle();
        countedCycles();
        stepsOfTheLatest();
        lastCall();
        CHECK.end();
    }

    private static void words() {
        CHECK.sentence("word or luck is not 0 .. 255");
        SceneCycle scene = Scenes.withLogic(8, 3, 255, 2, 4, 9);
        CHECK.due("word -1", -1, scene.cycle(-1, 0, 0));
        CHECK.due("word 256", -1, scene.cycle(256, 0, 0));
        CHECK.due("word 511", -1, scene.cycle(511, 0, 0));
        for (int far : Scenes.FAR) {
            CHECK.due("word " + far, -1, scene.cycle(far, 0, 0));
        }
        CHECK.due("no cycle", 0, scene.cycles());
        CHECK.due("word 0", 1, scene.cycle(0, 0, 0));
        CHECK.due("not 255", false, scene.flag(9));
        CHECK.due("word 255", 2, scene.cycle(255, 0, 0));
        CHECK.due("255", true, scene.flag(9));
        CHECK.due("two cycles", 2, scene.cycles());
    }

    private static void noWord() {
        CHECK.sentence("with a word (0: none), a key and a luck");
        SceneCycle scene = Scenes.withLogic(5, 9, 8, 3, 7, 2, 4, 9);
        CHECK.due("none at first", 2, scene.cycle(0, 0, 0));
        CHECK.due("the word 7", 3, scene.cycle(7, 0, 0));
        CHECK.due("it holds", true, scene.flag(9));
        CHECK.due("none behind it", 2, scene.cycle(0, 0, 0));
        CHECK.due("it does not hold any more", false, scene.flag(9));
        CHECK.due("a refused one with the word 7", -1, scene.cycle(7, 9, 0));
        CHECK.due("none behind that", 2, scene.cycle(0, 0, 0));
    }

    private static void keys() {
        CHECK.sentence("or key is not 0 .. 8");
        SceneCycle scene = new SceneCycle(50);
        CHECK.due("key -1", -1, scene.cycle(0, -1, 0));
        CHECK.due("key 9", -1, scene.cycle(0, 9, 0));
        for (int far : Scenes.FAR) {
            CHECK.due("key " + far, -1, scene.cycle(0, far, 0));
        }
        CHECK.due("no cycle", 0, scene.cycles());
        CHECK.due("no direction", 0, scene.object(0, Scenes.DIRECTION));
        for (int key = 0; key <= 8; key++) {
            CHECK.due("key " + key, 0, scene.cycle(0, key, 0));
            CHECK.due("direction " + key, key, scene.object(0, Scenes.DIRECTION));
        }
        CHECK.due("nine cycles", 9, scene.cycles());
    }

    private static void lucks() {
        CHECK.sentence("word or luck is not 0 .. 255");
        SceneCycle scene = Scenes.withLogic(9, 0, 5, 6, 15, 0);
        CHECK.due("luck -1", -1, scene.cycle(0, 0, -1));
        CHECK.due("luck 256", -1, scene.cycle(0, 0, 256));
        for (int far : Scenes.FAR) {
            CHECK.due("luck " + far, -1, scene.cycle(0, 0, far));
        }
        CHECK.due("no cycle", 0, scene.cycles());
        CHECK.due("not shown yet", 0, scene.object(0, Scenes.SHOWN));
        CHECK.due("luck 0", 2, scene.cycle(0, 0, 0));
        CHECK.due("direction 1", 1, scene.object(0, Scenes.DIRECTION));
        SceneCycle most = Scenes.withLogic(9, 0, 5, 6, 15, 0);
        CHECK.due("luck 255", 2, most.cycle(0, 0, 255));
        CHECK.due("direction 8", 8, most.object(0, Scenes.DIRECTION));
        CHECK.due("all three wrong", -1, most.cycle(256, 9, 256));
        CHECK.due("all three greatest", 2, most.cycle(255, 8, 255));
    }

    private static void keyThatIsTheDirection() {
        CHECK.sentence("its direction becomes the key, but 0 if it is that already");
        for (int key = 1; key <= 8; key++) {
            SceneCycle scene = new SceneCycle(50);
            scene.cycle(0, key, 0);
            CHECK.due("the key " + key, key, scene.object(0, Scenes.DIRECTION));
            scene.cycle(0, key, 0);
            CHECK.due("again", 0, scene.object(0, Scenes.DIRECTION));
            scene.cycle(0, key, 0);
            CHECK.due("once more", key, scene.object(0, Scenes.DIRECTION));
            scene.cycle(0, 0, 0);
            CHECK.due("no key", key, scene.object(0, Scenes.DIRECTION));
            scene.cycle(0, key % 8 + 1, 0);
            CHECK.due("another key", key % 8 + 1, scene.object(0, Scenes.DIRECTION));
            for (int o = 1; o <= 3; o++) {
                CHECK.due("object " + o, 0, scene.object(o, Scenes.DIRECTION));
            }
        }
    }

    private static void keyOfOneThatIsNotFree() {
        CHECK.sentence("If the key is not 0 and object 0 is free");
        SceneCycle going = Scenes.onceOnly(Scenes.NO_PICTURE, 13, 0, 9, 9, 4);
        Scenes.plainCycle(going);
        going.cycle(0, 5, 0);
        CHECK.due("a going one, not shown", 0, going.object(0, Scenes.DIRECTION));
        SceneCycle wandering = Scenes.onceOnly(Scenes.NO_PICTURE, 15, 0);
        Scenes.plainCycle(wandering);
        wandering.cycle(0, 5, 0);
        CHECK.due("a wandering one, not shown", 0, wandering.object(0, Scenes.DIRECTION));
        SceneCycle arrived = Scenes.onceOnly(Scenes.NO_PICTURE, 9, 0, 5, 6, 13, 0, 5, 6, 4);
        Scenes.plainCycle(arrived);
        arrived.cycle(0, 5, 0);
        CHECK.due("one that has arrived", "5,7", Scenes.place(arrived, 0));
        SceneCycle before = Scenes.withLogic(13, 0, 9, 9, 4);
        before.cycle(0, 5, 0);
        CHECK.due("free before the logic", 5, before.object(0, Scenes.DIRECTION));
    }

    private static void logicThatIsNotLoaded() {
        CHECK.sentence("Logic 1 is run from its beginning, if it is loaded");
        SceneCycle scene = new SceneCycle(50);
        Scenes.putAll(scene, 1, 4, 9);
        Scenes.addLoaded(scene, 2, 4, 10);
        scene.give(0, 7);
        CHECK.due("not loaded", 0, Scenes.plainCycle(scene));
        CHECK.due("not run", false, scene.flag(9));
        CHECK.due("nor another one", false, scene.flag(10));
        CHECK.due("a motion all the same", 0, scene.variable(0));
        CHECK.due("load", 1, scene.load(1));
        CHECK.due("not run by that", false, scene.flag(9));
        CHECK.due("loaded", 1, Scenes.plainCycle(scene));
        CHECK.due("run", true, scene.flag(9));
        scene.mark(9, false);
        CHECK.due("from its beginning again", 1, Scenes.plainCycle(scene));
        CHECK.due("run", true, scene.flag(9));
    }

    private static void behindItsCall() {
        CHECK.sentence("At RETURN or the end of a logic, the logic that called it goes on behind its CALL");
        int[][] called = {{}, {0}, {4, 8}, {4, 8, 0}, {0, 4, 8}};
        int[] steps = {2, 3, 3, 4, 3};
        for (int i = 0; i < called.length; i++) {
            SceneCycle scene = new SceneCycle(50);
            Scenes.addLoaded(scene, 1, 6, 2, 4, 9);
            Scenes.addLoaded(scene, 2, called[i]);
            CHECK.due("steps of " + i, steps[i], Scenes.plainCycle(scene));
            CHECK.due("behind its CALL", true, scene.flag(9));
            CHECK.due("the called one", i == 2 || i == 3, scene.flag(8));
        }
        SceneCycle last = new SceneCycle(50);
        Scenes.addLoaded(last, 1, 6, 2);
        Scenes.addLoaded(last, 2, 6, 3);
        Scenes.addLoaded(last, 3);
        CHECK.due("a CALL at the end, of an empty one", 2, Scenes.plainCycle(last));
        CHECK.due("again", 2, Scenes.plainCycle(last));
        SceneCycle jump = new SceneCycle(50);
        Scenes.addLoaded(jump, 1, 6, 2, 4, 9);
        Scenes.addLoaded(jump, 2, 7, 2, 4, 8);
        CHECK.due("GOTO to the end", 3, Scenes.plainCycle(jump));
        CHECK.due("behind its CALL", true, jump.flag(9));
        CHECK.due("left out", false, jump.flag(8));
    }

    private static void logicOneItself() {
        CHECK.sentence("for logic 1 as it was begun first, that is all");
        // Logic 1 calls itself once; what stands behind the CALL is done twice.
        SceneCycle scene = Scenes.withLogic(8, 5, 2, 9, 4, 4, 9, 6, 1, 2, 3, 1, 0, 4, 8);
        CHECK.due("steps", 8, Scenes.plainCycle(scene));
        CHECK.due("behind the CALL, twice", 2, scene.variable(3));
        CHECK.due("behind the RETURN", false, scene.flag(8));
        CHECK.due("it is not called again", 3, Scenes.plainCycle(scene));
        CHECK.due("once more", 3, scene.variable(3));
    }

    private static void callOfNoLoadedLogic() {
        CHECK.sentence("A CALL of a logic that is not loaded does nothing");
        SceneCycle scene = new SceneCycle(50);
        Scenes.addLoaded(scene, 1, 6, 2, 6, 3, 4, 9);
        Scenes.putAll(scene, 2, 4, 8);
        CHECK.due("but it is a step", 3, Scenes.plainCycle(scene));
        CHECK.due("behind both", true, scene.flag(9));
        CHECK.due("bytes that are not loaded", false, scene.flag(8));
        scene.load(2);
        CHECK.due("loaded", 4, Scenes.plainCycle(scene));
        CHECK.due("run", true, scene.flag(8));
    }

    private static SceneCycle stepping(int limit, int steps) {
        SceneCycle scene = new SceneCycle(limit);
        Scenes.addLoaded(scene, 1, Scenes.repeat(steps, 2, 3, 1));
        return scene;
    }

    private static void overrun() {
        CHECK.sentence("OVERRUN: a step would be one more than the limit");
        for (int limit = 16; limit <= 20; limit++) {
            SceneCycle less = stepping(limit, limit - 1);
            CHECK.due("one less", limit - 1, Scenes.plainCycle(less));
            SceneCycle same = stepping(limit, limit);
            CHECK.due("as many", limit, Scenes.plainCycle(same));
            CHECK.due("and again", limit, Scenes.plainCycle(same));
            SceneCycle more = stepping(limit, limit + 1);
            CHECK.due("one more", -2, Scenes.plainCycle(more));
            CHECK.due("the steps before", limit, more.steps());
            CHECK.due("what they did", limit, more.variable(3));
        }
        SceneCycle returning = new SceneCycle(16);
        Scenes.addLoaded(returning, 1, Scenes.join(Scenes.repeat(15, 18), Scenes.bytes(0, 18)));
        CHECK.due("RETURN as the last step", 16, Scenes.plainCycle(returning));
        SceneCycle lateReturn = new SceneCycle(16);
        Scenes.addLoaded(lateReturn, 1, Scenes.join(Scenes.repeat(16, 18), Scenes.bytes(0)));
        CHECK.due("RETURN as one more", -2, Scenes.plainCycle(lateReturn));
        SceneCycle jumping = new SceneCycle(16);
        Scenes.addLoaded(jumping, 1, Scenes.join(Scenes.repeat(15, 18), Scenes.bytes(7, 1, 18)));
        CHECK.due("GOTO the end as the last step", 16, Scenes.plainCycle(jumping));
    }

    private static void overrunInACalledLogic() {
        CHECK.sentence("Each instruction that begins is a STEP");
        for (int inside = 14; inside <= 16; inside++) {
            SceneCycle scene = new SceneCycle(16);
            Scenes.addLoaded(scene, 1, 6, 2, 4, 9);
            Scenes.addLoaded(scene, 2, Scenes.repeat(inside, 18));
            CHECK.due(inside + " in the called one", inside == 14 ? 16 : -2, Scenes.plainCycle(scene));
            CHECK.due("steps", 16, scene.steps());
            CHECK.due("behind its CALL", inside == 14, scene.flag(9));
        }
        SceneCycle callLast = new SceneCycle(16);
        Scenes.addLoaded(callLast, 1, Scenes.join(Scenes.repeat(15, 18), Scenes.bytes(6, 2)));
        Scenes.addLoaded(callLast, 2);
        CHECK.due("CALL of an empty one as the last step", 16, Scenes.plainCycle(callLast));
        SceneCycle callMore = new SceneCycle(16);
        Scenes.addLoaded(callMore, 1, Scenes.join(Scenes.repeat(15, 18), Scenes.bytes(6, 2)));
        Scenes.addLoaded(callMore, 2, 18);
        CHECK.due("CALL of another one as the last step", -2, Scenes.plainCycle(callMore));
    }

    /** Logic 1 calls itself until as many are under way, and marks each return in variable 4. */
    private static SceneCycle nested(int underWay) {
        return Scenes.withLogic(2, 3, 1, 8, 1, 3, underWay, 2, 6, 1, 2, 4, 1);
    }

    private static void deep() {
        CHECK.sentence("DEEP: a CALL (of a loaded logic), when four logics are under way already (logic 1 as it was begun first included)");
        SceneCycle three = nested(3);
        CHECK.due("three", 11, Scenes.plainCycle(three));
        CHECK.due("all go on", 3, three.variable(4));
        SceneCycle four = nested(4);
        CHECK.due("four", 15, Scenes.plainCycle(four));
        CHECK.due("all go on", 4, four.variable(4));
        SceneCycle five = nested(5);
        CHECK.due("five", -3, Scenes.plainCycle(five));
        CHECK.due("the CALL began", 12, five.steps());
        CHECK.due("none goes on", 0, five.variable(4));
        CHECK.due("four began", 4, five.variable(3));
        SceneCycle chain = new SceneCycle(50);
        Scenes.addLoaded(chain, 1, 6, 2, 6, 2, 4, 9);
        Scenes.addLoaded(chain, 2, 6, 3, 6, 3);
        Scenes.addLoaded(chain, 3);
        CHECK.due("many, but one after the other", 7, Scenes.plainCycle(chain));
        CHECK.due("behind them", true, chain.flag(9));
        SceneCycle unloaded = Scenes.withLogic(2, 3, 1, 8, 1, 3, 4, 2, 6, 1, 6, 2);
        CHECK.due("the fifth is not loaded", 15, Scenes.plainCycle(unloaded));
        SceneCycle empty = Scenes.withLogic(2, 3, 1, 8, 1, 3, 4, 2, 6, 1, 6, 2);
        Scenes.addLoaded(empty, 2);
        CHECK.due("the fifth is empty, but loaded", -3, Scenes.plainCycle(empty));
    }

    /** So many steps, then the logics call one another, four under way, and then once more. */
    private static SceneCycle deepBehind(int steps) {
        SceneCycle scene = new SceneCycle(16);
        Scenes.addLoaded(scene, 1, Scenes.join(Scenes.repeat(steps, 18), Scenes.bytes(6, 2)));
        Scenes.addLoaded(scene, 2, 6, 3);
        Scenes.addLoaded(scene, 3, 6, 2);
        return scene;
    }

    private static void overrunOrDeep() {
        CHECK.sentence("-2 when it ended with OVERRUN, -3 with DEEP");
        SceneCycle deep = deepBehind(12);
        CHECK.due("the 16th step is too deep", -3, Scenes.plainCycle(deep));
        CHECK.due("steps", 16, deep.steps());
        SceneCycle overrun = deepBehind(13);
        CHECK.due("the 17th would be", -2, Scenes.plainCycle(overrun));
        CHECK.due("steps", 16, overrun.steps());
    }

    /** Shows object 0, which then walks; with flag 9 it overruns, with flag 10 it goes too deep. */
    private static SceneCycle ending() {
        return Scenes.withLogic(8, 5, 2, 8, 6, 4, 8, 9, 0, 5, 6, 2, 3, 1,
                8, 2, 9, 2, 7, 254, 8, 2, 10, 2, 6, 1);
    }

    private static void whatWasDoneStays() {
        CHECK.sentence("With either the scene is OVER: what was done stays");
        for (int flag = 9; flag <= 10; flag++) {
            SceneCycle scene = ending();
            scene.mark(flag, true);
            CHECK.due("over", flag == 9 ? -2 : -3, scene.cycle(0, 4, 0));
            CHECK.due("the key", 4, scene.object(0, Scenes.DIRECTION));
            CHECK.due("shown", 1, scene.object(0, Scenes.SHOWN));
            CHECK.due("place", "5,6", Scenes.place(scene, 0));
            CHECK.due("variable", flag == 9 ? 1 : 4, scene.variable(3));
            CHECK.due("flag", true, scene.flag(8));
        }
    }

    private static void noMotion() {
        CHECK.sentence("no motion is made");
        for (int flag = 9; flag <= 10; flag++) {
            SceneCycle scene = ending();
            scene.cycle(0, 3, 0);
            CHECK.due("a motion before", "6,6", Scenes.place(scene, 0));
            scene.mark(flag, true);
            scene.mark(0, true);
            scene.mark(1, true);
            scene.give(0, 9);
            CHECK.due("over", flag == 9 ? -2 : -3, scene.cycle(0, 0, 0));
            CHECK.due("no step", "6,6", Scenes.place(scene, 0));
            CHECK.due("variable 0 stays", 9, scene.variable(0));
            CHECK.due("flag 0 stays", true, scene.flag(0));
            CHECK.due("flag 1 stays", true, scene.flag(1));
        }
    }

    private static void noFurtherCycle() {
        CHECK.sentence("no further cycle");
        for (int flag = 9; flag <= 10; flag++) {
            SceneCycle scene = ending();
            scene.mark(flag, true);
            CHECK.due("over", flag == 9 ? -2 : -3, scene.cycle(0, 4, 0));
            scene.mark(flag, false);
            scene.give(0, 9);
            String before = Scenes.state(scene);
            for (int i = 0; i < 3; i++) {
                CHECK.due("refused", -1, scene.cycle(0, i, 0));
            }
            CHECK.due("all is as before", before, Scenes.state(scene));
            CHECK.due("bytes are still added", 1, scene.put(2, 0, 1));
            CHECK.due("and loaded", 1, scene.load(2));
            CHECK.due("variables are given", true, scene.give(3, 77));
            CHECK.due("flags are marked", true, scene.mark(3, true));
            CHECK.due("still refused", -1, scene.cycle(0, 0, 0));
        }
    }

    private static void countedCycles() {
        CHECK.sentence("How many cycles there were, those that ended with OVERRUN or DEEP included");
        for (int flag = 9; flag <= 10; flag++) {
            SceneCycle scene = ending();
            CHECK.due("none", 0, scene.cycles());
            scene.cycle(256, 0, 0);
            CHECK.due("a refused one", 0, scene.cycles());
            scene.cycle(0, 0, 0);
            CHECK.due("one", 1, scene.cycles());
            scene.mark(flag, true);
            scene.cycle(0, 0, 0);
            CHECK.due("the one that ended it included", 2, scene.cycles());
            scene.cycle(0, 0, 0);
            CHECK.due("a refused one", 2, scene.cycles());
        }
        SceneCycle bare = new SceneCycle(50);
        bare.cycle(0, 0, 0);
        CHECK.due("one without a logic", 1, bare.cycles());
    }

    private static void stepsOfTheLatest() {
        CHECK.sentence("How many instructions began in the latest cycle; 0 when there was none");
        SceneCycle scene = Scenes.withLogic(8, 2, 9, 2, 18, 18);
        CHECK.due("no cycle", 0, scene.steps());
        scene.cycle(0, 9, 0);
        CHECK.due("a refused one", 0, scene.steps());
        scene.mark(9, true);
        scene.cycle(0, 0, 0);
        CHECK.due("three", 3, scene.steps());
        scene.cycle(0, 0, 256);
        CHECK.due("a refused one behind it", 3, scene.steps());
        scene.mark(9, false);
        scene.cycle(0, 0, 0);
        CHECK.due("fewer", 1, scene.steps());
        SceneCycle over = stepping(16, 17);
        over.cycle(0, 0, 0);
        over.cycle(0, 0, 0);
        CHECK.due("the one that ended it", 16, over.steps());
        SceneCycle bare = new SceneCycle(50);
        bare.cycle(0, 0, 0);
        CHECK.due("one without a logic", 0, bare.steps());
    }

    private static void lastCall() {
        CHECK.sentence("An object is used for at most 512 calls after it has been made");
        SceneCycle scene = new SceneCycle(200);
        for (int call = 1; call <= 511; call++) {
            CHECK.due("call " + call, 0, scene.cycle(255, 0, 255));
        }
        CHECK.due("the 512th call", 511, scene.cycles());
    }
}
