import java.util.Arrays;

/** The boundary cases of LOGIC, as they are loaded and run: a test of its own for each sentence. */
public final class LogicBoundaryTest {
    private static final Check CHECK = new Check();

    public static void main(String[] args) {
        lastInstruction();
        lastTest();
        returns();
        callsOfLogics();
        gotoForward();
        gotoBack();
        ifFurtherOn();
        followingIsNotForTheFirst();
        equalTest();
        belowTest();
        flagTest();
        wordTest();
        withinTest();
        notTest();
        bothAndEither();
        sixWithinOneAnother();
        jumpsAmongInstructions();
        faultsBeforeJumps();
        CHECK.end();
    }

    private static void due(int answer, int... logic) {
        CHECK.due("load of " + Arrays.toString(logic), answer, Scenes.loadAnswer(1, logic));
    }

    /** Whether the test holds in the scene's next cycle: flag 14 tells. */
    private static SceneCycle asking(int... test) {
        return Scenes.withLogic(Scenes.join(Scenes.bytes(5, 14, 8), test, Scenes.bytes(2, 4, 14)));
    }

    private static boolean holds(SceneCycle scene, int word) {
        CHECK.due("a cycle", true, scene.cycle(word, 0, 0) >= 2);
        CHECK.due("a step more if it holds", scene.flag(14) ? 3 : 2, scene.steps());
        return scene.flag(14);
    }

    private static void lastInstruction() {
        CHECK.sentence("where an instruction or test is, a byte that is none");
        due(1, 0);
        due(1, 18);
        due(-2, 19);
        due(-2, 255);
        due(-3, 18, 19);
        due(-5, 1, 2, 19, 19);
        due(2, 1, 2, 255, 18);
    }

    private static void lastTest() {
        CHECK.sentence("where an instruction or test is, a byte that is none");
        due(1, 8, 0, 0, 0, 0);
        due(1, 8, 7, 2, 0, 2, 0, 0);
        due(-3, 8, 8, 2, 0, 2, 0, 0);
        due(-3, 8, 18, 0);
        due(-3, 8, 255, 0);
        due(-4, 8, 5, 8, 0, 0);
        due(-6, 8, 6, 2, 0, 8, 0);
        due(-6, 8, 7, 2, 0, 255, 0);
    }

    private static void returns() {
        CHECK.sentence("Instructions, one after the other, up to the logic's end");
        CHECK.due("no instruction", 0, Scenes.plainCycle(Scenes.withLogic()));
        CHECK.due("RETURN alone", 1, Scenes.plainCycle(Scenes.withLogic(0)));
        SceneCycle behind = Scenes.withLogic(0, 4, 9);
        CHECK.due("RETURN before another one", 1, Scenes.plainCycle(behind));
        CHECK.due("that one is not run", false, behind.flag(9));
        SceneCycle most = Scenes.withLogic(Scenes.join(Scenes.repeat(63, 18), Scenes.bytes(0)));
        CHECK.due("64 instructions", 64, Scenes.plainCycle(most));
    }

    private static void callsOfLogics() {
        CHECK.sentence("6 k: CALL of logic k (1 .. 3)");
        due(-3, 6, 0);
        due(1, 6, 1);
        due(1, 6, 3);
        due(-3, 6, 4);
        for (int k = 2; k <= 3; k++) {
            SceneCycle scene = new SceneCycle(50);
            Scenes.addLoaded(scene, 1, 6, k);
            Scenes.addLoaded(scene, 2, 4, 2);
            Scenes.addLoaded(scene, 3, 4, 3);
            CHECK.due("a CALL and one step", 2, Scenes.plainCycle(scene));
            CHECK.due("logic 2", k == 2, scene.flag(2));
            CHECK.due("logic 3", k == 3, scene.flag(3));
        }
    }

    private static void gotoForward() {
        CHECK.sentence("GOTO: goes on d bytes behind this instruction's end");
        SceneCycle next = Scenes.withLogic(7, 0, 4, 9);
        CHECK.due("0: the next one", 2, Scenes.plainCycle(next));
        CHECK.due("it is run", true, next.flag(9));
        SceneCycle over = Scenes.withLogic(7, 2, 4, 9, 4, 10);
        CHECK.due("over one", 2, Scenes.plainCycle(over));
        CHECK.due("that one is not run", false, over.flag(9));
        CHECK.due("the one behind it is", true, over.flag(10));
        SceneCycle end = Scenes.withLogic(7, 2, 4, 9);
        CHECK.due("to the end", 1, Scenes.plainCycle(end));
        CHECK.due("nothing more is run", false, end.flag(9));
        int[] longest = Scenes.join(Scenes.bytes(7, 62), Scenes.repeat(62, 0));
        CHECK.due("62 to the end of 64 bytes", 1, Scenes.plainCycle(Scenes.withLogic(longest)));
        longest[1] = 61;
        CHECK.due("61 to the last byte", 2, Scenes.plainCycle(Scenes.withLogic(longest)));
        longest[1] = 63;
        due(-2, longest);
        longest[1] = 127;
        due(-2, longest);
    }

    private static void gotoBack() {
        CHECK.sentence("or 256 - d before it when d is above 127");
        int[] farthest = Scenes.join(Scenes.repeat(62, 0), Scenes.bytes(7, 192));
        due(63, farthest);
        farthest[63] = 191;
        due(-64, farthest);
        farthest[63] = 128;
        due(-64, farthest);
        farthest[63] = 193;
        due(63, farthest);
        SceneCycle itself = new SceneCycle(16);
        Scenes.addLoaded(itself, 1, 7, 254);
        CHECK.due("254: this GOTO itself", -2, Scenes.plainCycle(itself));
        due(-2, 7, 255);
        due(-2, 7, 253);
        SceneCycle loop = Scenes.withLogic(2, 3, 1, 8, 1, 3, 3, 2, 7, 246, 4, 9);
        CHECK.due("three rounds by 246, to the first byte", 9, Scenes.plainCycle(loop));
        CHECK.due("rounds", 3, loop.variable(3));
        CHECK.due("behind the loop", true, loop.flag(9));
    }

    private static void ifFurtherOn() {
        CHECK.sentence("IF test t holds, it goes on behind; otherwise d bytes (0 .. 255) further on");
        SceneCycle none = Scenes.withLogic(8, 2, 1, 0, 4, 9);
        CHECK.due("0 bytes", 2, Scenes.plainCycle(none));
        CHECK.due("the next one is run", true, none.flag(9));
        SceneCycle toEnd = Scenes.withLogic(8, 2, 1, 2, 4, 9);
        CHECK.due("to the end", 1, Scenes.plainCycle(toEnd));
        CHECK.due("the next one is not run", false, toEnd.flag(9));
        toEnd.mark(1, true);
        CHECK.due("it holds", 2, Scenes.plainCycle(toEnd));
        CHECK.due("the next one is run", true, toEnd.flag(9));
        int[] longest = Scenes.join(Scenes.bytes(8, 2, 9, 60), Scenes.repeat(60, 18));
        SceneCycle sixty = Scenes.withLogic(longest);
        CHECK.due("60 to the end of 64 bytes", 1, Scenes.plainCycle(sixty));
        sixty.mark(9, true);
        CHECK.due("it holds", 61, Scenes.plainCycle(sixty));
        longest[3] = 61;
        due(-2, longest);
        longest[3] = 127;
        due(-2, longest);
        longest[3] = 255;
        due(-2, longest);
        CHECK.sentence("(for IF: by its d)");
        due(-2, 8, 2, 9, 252);
        due(-3, 18, 8, 2, 9, 251);
    }

    private static void followingIsNotForTheFirst() {
        CHECK.sentence("14 o f: following object 0, with flag f; o is not 0");
        due(-3, 14, 0, 0);
        due(1, 14, 1, 0);
        due(1, 14, 3, 15);
        due(-3, 14, 4, 15);
        due(-4, 14, 3, 16);
    }

    private static boolean holdsOf(int kind, int value, int n) {
        SceneCycle scene = asking(kind, 15, n);
        scene.give(15, value);
        return holds(scene, 0);
    }

    private static void equalTest() {
        CHECK.sentence("0 v n: the variable is n");
        int[] edges = {0, 1, 127, 128, 254, 255};
        for (int n : edges) {
            for (int value : edges) {
                CHECK.due(value + " is " + n, value == n, holdsOf(0, value, n));
            }
        }
    }

    private static void belowTest() {
        CHECK.sentence("1 v n: it is below n");
        int[] edges = {0, 1, 127, 128, 254, 255};
        for (int n : edges) {
            for (int value : edges) {
                CHECK.due(value + " is below " + n, value < n, holdsOf(1, value, n));
            }
        }
        CHECK.due("99 is below 100", true, holdsOf(1, 99, 100));
        CHECK.due("100 is below 100", false, holdsOf(1, 100, 100));
        CHECK.due("101 is below 100", false, holdsOf(1, 101, 100));
    }

    private static void flagTest() {
        CHECK.sentence("2 f: the flag is set");
        for (int f = 0; f <= 15; f += 15) {
            SceneCycle scene = asking(2, f);
            CHECK.due("flag " + f + " is not set", false, holds(scene, 0));
            scene.mark(15 - f, true);
            CHECK.due("another one is set", false, holds(scene, 0));
            scene.mark(f, true);
            CHECK.due("flag " + f + " is set", true, holds(scene, 0));
        }
    }

    private static void wordTest() {
        CHECK.sentence("3 n: n is the cycle's word, n not 0");
        due(-4, 8, 3, 0, 0);
        due(1, 8, 3, 1, 0);
        due(1, 8, 3, 255, 0);
        int[] words = {0, 1, 2, 127, 128, 254, 255};
        int[] numbers = {1, 2, 127, 128, 254, 255};
        for (int n : numbers) {
            SceneCycle scene = asking(3, n);
            for (int word : words) {
                CHECK.due("word " + word + " is " + n, word == n, holds(scene, word));
            }
            CHECK.due("word " + n + " again", true, holds(scene, n));
            CHECK.due("no word behind " + n, false, holds(scene, 0));
        }
    }

    /** Object 3, of that width, stands in row 6 from column 5 on. */
    private static boolean within(int width, int left, int top, int right, int bottom) {
        SceneCycle scene = Scenes.withLogic(11, 3, width, 4, 9, 3, 5, 6,
                8, 4, 3, left, top, right, bottom, 2, 4, 14);
        Scenes.plainCycle(scene);
        return scene.flag(14);
    }

    private static void withinTest() {
        CHECK.sentence("the object is shown, and its base lies within the columns and rows from the first two to the last two numbers (both included)");
        for (int width = 1; width <= 4; width++) {
            int last = 5 + width - 1;
            CHECK.due("just its base", true, within(width, 5, 6, last, 6));
            CHECK.due("one column less on the left", false, within(width, 6, 6, last, 6));
            CHECK.due("one column less on the right", false, within(width, 5, 6, last - 1, 6));
            CHECK.due("one more on the left", true, within(width, 4, 6, last, 6));
            CHECK.due("one more on the right", true, within(width, 5, 6, last + 1, 6));
            CHECK.due("from the row below it", false, within(width, 5, 7, last, 11));
            CHECK.due("up to the row above it", false, within(width, 5, 0, last, 5));
            CHECK.due("a row more above", true, within(width, 5, 5, last, 6));
            CHECK.due("a row more below", true, within(width, 5, 6, last, 7));
            CHECK.due("the whole screen", true, within(width, 0, 0, 15, 11));
            CHECK.due("rows the other way round", false, within(width, 0, 7, 15, 5));
        }
        CHECK.due("columns the other way round", false, within(1, 6, 0, 4, 11));
        SceneCycle corner = Scenes.withLogic(9, 3, 15, 11, 8, 4, 3, 15, 11, 15, 11, 2, 4, 14);
        Scenes.plainCycle(corner);
        CHECK.due("the last corner", true, corner.flag(14));
        CHECK.due("not shown, at (0, 0)", false, holds(asking(4, 3, 0, 0, 15, 11), 0));
        SceneCycle hidden = Scenes.withLogic(9, 3, 5, 6, 10, 3, 8, 4, 3, 0, 0, 15, 11, 2, 4, 14);
        Scenes.plainCycle(hidden);
        CHECK.due("not shown any more", false, hidden.flag(14));
    }

    private static void notTest() {
        CHECK.sentence("5 t: t does not hold");
        SceneCycle scene = asking(5, 2, 3);
        CHECK.due("not set", true, holds(scene, 0));
        scene.mark(3, true);
        CHECK.due("set", false, holds(scene, 0));
        CHECK.due("no word is not the word 1", true, holds(asking(5, 3, 1), 0));
        CHECK.due("one that is not shown", true, holds(asking(5, 4, 3, 0, 0, 15, 11), 0));
    }

    private static void bothAndEither() {
        for (int bits = 0; bits < 4; bits++) {
            SceneCycle both = asking(6, 2, 3, 2, 4);
            SceneCycle either = asking(7, 2, 3, 2, 4);
            boolean first = bits % 2 == 1;
            boolean second = bits / 2 == 1;
            both.mark(3, first);
            both.mark(4, second);
            either.mark(3, first);
            either.mark(4, second);
            CHECK.sentence("6 t t: both hold");
            CHECK.due(first + " and " + second, first && second, holds(both, 0));
            CHECK.sentence("7 t t: at least one does");
            CHECK.due(first + " or " + second, first || second, holds(either, 0));
        }
    }

    private static void sixWithinOneAnother() {
        CHECK.sentence("At most six tests of the kinds 5 to 7 stand within one another (the first byte of a seventh is at fault)");
        int[] six = {5, 6, 7, 5, 6, 7};
        int[] inmost = {2, 1};
        int[] others = {2, 2, 2, 3, 2, 4, 2, 5};
        due(1, Scenes.join(Scenes.bytes(8), six, inmost, others, Scenes.bytes(0)));
        for (int seventh = 5; seventh <= 7; seventh++) {
            due(-9, Scenes.join(Scenes.bytes(8), six, Scenes.bytes(seventh), inmost, others, inmost,
                    Scenes.bytes(0)));
        }
        due(-9, Scenes.join(Scenes.bytes(8), six));
        due(-9, Scenes.join(Scenes.bytes(8), six, Scenes.bytes(8)));
        // Beside one another there may be more.
        int[] fives = Scenes.repeat(5, 5);
        due(1, Scenes.join(Scenes.bytes(8, 6), fives, inmost, fives, inmost, Scenes.bytes(0)));
        due(-16, Scenes.join(Scenes.bytes(8, 6), fives, inmost, fives, Scenes.bytes(5), inmost, Scenes.bytes(0)));
        due(2, Scenes.join(Scenes.bytes(8), Scenes.repeat(6, 5), inmost, Scenes.bytes(0),
                Scenes.bytes(8), Scenes.repeat(6, 5), inmost, Scenes.bytes(0)));
        SceneCycle run = asking(Scenes.join(six, inmost, others));
        CHECK.due("not ((((1 or 2) and 3) ... ), all not set", true, holds(run, 0));
    }

    private static void jumpsAmongInstructions() {
        CHECK.sentence("that leads neither to an instruction's beginning nor to the end");
        int[] starts = {2, 5, 7, 8};
        for (int to = 0; to <= 10; to++) {
            boolean well = to == 0;
            for (int start : starts) {
                well |= start == to;
            }
            int d = to >= 2 ? to - 2 : 254 + to;
            due(well ? 4 : -2, 7, d, 1, 2, 3, 4, 5, 18);
        }
        for (int to = 4; to <= 12; to++) {
            boolean well = to == 4 || to == 7 || to == 9 || to == 10;
            due(well ? 4 : -2, 8, 2, 9, to - 4, 1, 2, 3, 4, 5, 18);
        }
        due(-4, 7, 0, 7, 9, 7, 9);
        due(-6, 7, 0, 7, 0, 8, 2, 9, 1);
    }

    private static void faultsBeforeJumps() {
        CHECK.sentence("and, when there is none of these, the first byte of the first GOTO or IF");
        due(-2, 7, 9, 18);
        due(-4, 7, 9, 19);
        due(-5, 7, 9, 4, 16);
        due(-6, 8, 2, 9, 9, 19);
        due(-2, 8, 2, 9, 9, 18);
        CHECK.sentence("a number out of its range");
        due(-6, 18, 4, 3, 4, 16);
        due(3, 18, 4, 3, 4, 15);
        CHECK.sentence("when all are but more must follow, the number of bytes");
        due(-6, 18, 4, 3, 4);
        due(-7, 18, 4, 3, 1, 15);
    }
}
