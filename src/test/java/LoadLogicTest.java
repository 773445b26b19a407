import java.util.Arrays;

/** Promise 3: load, of the logics. */
public final class LoadLogicTest {
    private static final Check CHECK = new Check();
    private static final int[] V = {0, 15};
    private static final int[] N = {0, 255};
    private static final int[] F = {0, 15};
    private static final int[] O = {0, 3};
    private static final int[] X = {0, 15};
    private static final int[] Y = {0, 11};
    private static final int[] SIZE = {1, 4};
    private static final int[] WORD = {1, 255};

    public static void main(String[] args) {
        plainRows();
        instructions();
        ranks();
        tests();
        wordZero();
        nesting();
        gotos();
        ifs();
        firstFault();
        loadedOnce();
        CHECK.end();
    }

    private static void due(int answer, int... logic) {
        for (int r = 1; r <= 3; r++) {
            CHECK.due("load of logic " + r + " " + Arrays.toString(logic), answer,
                    Scenes.loadAnswer(r, logic));
        }
    }

    private static void plainRows() {
        CHECK.sentence("Instructions, one after the other, up to the logic's end");
        due(0);
        due(1, 0);
        due(1, 18);
        due(-2, 19);
        due(-2, 255);
        due(-3, 0, 19, 0);
        due(64, Scenes.repeat(64, 0));
        due(-66, Scenes.join(Scenes.repeat(63, 0), Scenes.bytes(1)));
        due(5, 1, 2, 3, 0, 9, 0, 4, 5, 18, 6, 2);
    }

    private static void instructions() {
        operands("1 v n: variable v becomes n", 1, V, N);
        operands("2 v n: it grows by n", 2, V, N);
        operands("3 v w: it becomes variable w", 3, V, V);
        operands("4 f: flag f is set", 4, F);
        operands("5 f: it is not set any more", 5, F);
        operands("6 k: CALL of logic k (1 .. 3)", 6, new int[] {1, 3});
        operands("9 o x y: the object is shown, at (x, y)", 9, O, X, Y);
        operands("10 o: it is not shown any more", 10, O);
        operands("11 o w h (1 .. 4 both): width and height", 11, O, SIZE, SIZE);
        operands("12 o d (0 .. 8): free, direction d", 12, O, new int[] {0, 8});
        operands("13 o x y f: going to (x, y), with flag f", 13, O, X, Y, F);
        operands("14 o f: following object 0, with flag f; o is not 0", 14, new int[] {1, 3}, F);
        operands("15 o: wandering", 15, O);
        operands("17 o b (0 or 1): ignoring if b is 1, else not", 17, O, new int[] {0, 1});
    }

    /** Both ends of every operand's range, one beyond them, and rows that break off. */
    private static void operands(String sentence, int code, int[]... ranges) {
        CHECK.sentence(sentence);
        checkRanges(Scenes.bytes(code), Scenes.bytes(), ranges);
    }

    private static void checkRanges(int[] head, int[] tail, int[]... ranges) {
        int[] least = new int[ranges.length];
        int[] greatest = new int[ranges.length];
        for (int i = 0; i < ranges.length; i++) {
            least[i] = ranges[i][0];
            greatest[i] = ranges[i][1];
        }
        due(1, Scenes.join(head, least, tail));
        due(1, Scenes.join(head, greatest, tail));
        for (int i = 0; i < ranges.length; i++) {
            int place = head.length + i;
            due(-2 - place, Arrays.copyOf(Scenes.join(head, least), place));
            int[] wrong = least.clone();
            if (ranges[i][0] > 0) {
                wrong[i] = ranges[i][0] - 1;
                due(-2 - place, Scenes.join(head, wrong, tail));
            }
            if (ranges[i][1] < 255) {
                wrong[i] = ranges[i][1] + 1;
                due(-2 - place, Scenes.join(head, wrong, tail));
                wrong[i] = 255;
                due(-2 - place, Scenes.join(head, wrong, tail));
            }
        }
    }

    private static void ranks() {
        CHECK.sentence("16 o r (0, or 4 .. 15): the rank");
        for (int rank = 0; rank <= 17; rank++) {
            boolean fits = rank == 0 || rank >= 4 && rank <= 15;
            due(fits ? 1 : -4, 16, 3, rank);
        }
        due(-3, 16, 4, 0);
        due(-3, 16);
        due(-4, 16, 0);
    }

    private static void tests() {
        int[] distance = {0};
        CHECK.sentence("0 v n: the variable is n");
        checkRanges(Scenes.bytes(8, 0), distance, V, N);
        CHECK.sentence("1 v n: it is below n");
        checkRanges(Scenes.bytes(8, 1), distance, V, N);
        CHECK.sentence("2 f: the flag is set");
        checkRanges(Scenes.bytes(8, 2), distance, F);
        CHECK.sentence("3 n: n is the cycle's word, n not 0");
        checkRanges(Scenes.bytes(8, 3), distance, WORD);
        CHECK.sentence("4 o x y x y: the object is shown, and its base lies within");
        checkRanges(Scenes.bytes(8, 4), distance, O, X, Y, X, Y);
        CHECK.sentence("5 t: t does not hold");
        checkRanges(Scenes.bytes(8, 5, 2), distance, F);
        CHECK.sentence("6 t t: both hold");
        checkRanges(Scenes.bytes(8, 6, 2, 0, 2), distance, F);
        CHECK.sentence("7 t t: at least one does");
        checkRanges(Scenes.bytes(8, 7, 2, 0, 1), distance, V, N);
        CHECK.sentence("where an instruction or test is, a byte that is none");
        due(-3, 8);
        due(-3, 8, 8, 0, 0);
        due(-3, 8, 255, 0, 0);
        due(-4, 8, 5);
        due(-4, 8, 5, 8, 0);
        due(-6, 8, 6, 2, 0);
        due(-6, 8, 7, 2, 0, 8, 0, 0);
        due(-5, 8, 2, 0);
    }

    /** A word 0 is none, so no test may ask for it: the 0 is at fault, wherever the test stands. */
    private static void wordZero() {
        CHECK.sentence("3 n: n is the cycle's word, n not 0");
        due(-4, 8, 3, 0);
        due(-4, 8, 3, 0, 0);
        due(-4, 8, 3, 0, 9, 19);
        due(-5, 8, 5, 3, 0, 0);
        due(-5, 8, 6, 3, 0, 2, 0, 0);
        due(-7, 8, 6, 2, 0, 3, 0, 0);
        due(-7, 8, 7, 3, 9, 3, 0, 0);
        due(-10, 8, 5, 5, 5, 5, 5, 5, 3, 0, 0);
        due(-6, 7, 9, 8, 3, 0, 0);
        due(2, 8, 3, 1, 0, 8, 3, 255, 0);
    }

    private static void nesting() {
        CHECK.sentence("At most six tests of the kinds 5 to 7 stand within one another (the first byte of a seventh is at fault)");
        int[] flagTest = {2, 0};
        int[] distance = {0};
        int[] instruction = {8};
        for (int kind = 5; kind <= 7; kind++) {
            int[] more = kind == 5 ? new int[0] : Scenes.repeat(6, 2, 0);
            due(1, Scenes.join(instruction, Scenes.repeat(6, kind), flagTest, more, distance));
            due(-9, Scenes.join(instruction, Scenes.repeat(7, kind), flagTest, more, distance));
        }
        due(1, 8, 6, 2, 0, 5, 5, 5, 5, 5, 2, 0, 0);
        due(-11, 8, 6, 2, 0, 5, 5, 5, 5, 5, 5, 2, 0, 0);
        due(-9, 8, 5, 5, 5, 5, 5, 5, 8, 0, 0);
        int[] pair = {6, 5, 2, 0, 5, 2, 0};
        due(1, Scenes.join(instruction, Scenes.bytes(7), pair, pair, distance));
    }

    private static void gotos() {
        CHECK.sentence("the first GOTO or IF that leads neither to an instruction's beginning nor to the end");
        due(-3, 7);
        due(1, 7, 0);
        due(-2, 7, 1);
        due(1, 7, 254);
        due(-2, 7, 255);
        due(-2, 7, 253);
        due(2, 7, 1, 0);
        due(-2, 7, 2, 0);
        due(2, 0, 7, 253);
        due(-5, 1, 0, 0, 7, 252);
        due(2, 1, 0, 0, 7, 251);
        due(-2, Scenes.join(Scenes.bytes(7, 127), Scenes.repeat(62, 0)));
        due(-64, Scenes.join(Scenes.repeat(62, 0), Scenes.bytes(7, 128)));
        due(63, Scenes.join(Scenes.bytes(7, 62), Scenes.repeat(62, 0)));
        due(63, Scenes.join(Scenes.repeat(62, 0), Scenes.bytes(7, 192)));
    }

    private static void ifs() {
        CHECK.sentence("the first GOTO or IF that leads neither to an instruction's beginning nor to the end (for IF: by its d)");
        due(1, 8, 2, 0, 0);
        due(-2, 8, 2, 0, 1);
        due(2, 8, 2, 0, 1, 0);
        due(-2, 8, 2, 0, 1, 4, 5);
        due(2, 8, 2, 0, 2, 4, 5);
        due(-2, 8, 2, 0, 252);
        due(-2, 8, 2, 0, 255);
        due(-6, 8, 2, 0, 0, 7, 253);
        due(2, 8, 2, 0, 0, 7, 250);
    }

    private static void firstFault() {
        CHECK.sentence("and, when there is none of these, the first byte of the first GOTO or IF that leads neither");
        due(-2, 7, 1, 9, 1, 2, 3);
        due(-7, 7, 1, 9, 1, 2, 12);
        due(-4, 7, 9, 19);
        due(-5, 7, 9, 9);
        due(-3, 0, 7, 9, 7, 9);
        due(-3, 0, 8, 2, 0, 9, 7, 9);
        due(-3, 1, 16, 255, 19);
    }

    private static void loadedOnce() {
        CHECK.sentence("which happens at most once, if it has no FAULT");
        SceneCycle several = new SceneCycle(50);
        Scenes.addLoaded(several, 2, Scenes.repeat(64, 0));
        Scenes.putAll(several, 1, 7, 62);
        CHECK.due("another logic's end", -2, several.load(1));
        Scenes.putAll(several, 3, 7, 1, 4, 4, 4);
        CHECK.due("another logic's instruction", -7, several.load(3));
        several.put(3, 4, 1);
        CHECK.due("another logic's instruction", -2, several.load(3));
        SceneCycle scene = new SceneCycle(50);
        CHECK.due("empty logic", 0, scene.load(3));
        CHECK.due("loaded already", -1, scene.load(3));
        CHECK.due("no bytes any more", -1, scene.put(3, 0, 1));
        Scenes.putAll(scene, 1, 1, 2);
        CHECK.due("more must follow", -4, scene.load(1));
        CHECK.due("a fault loads nothing", 0, Scenes.plainCycle(scene));
        scene.put(1, 77, 1);
        CHECK.due("mended by more bytes", 1, scene.load(1));
        CHECK.due("cycle", 1, Scenes.plainCycle(scene));
        CHECK.due("variable", 77, scene.variable(2));
    }
}
