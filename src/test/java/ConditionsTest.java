/** Promise 4: the tests of IF. */
public final class ConditionsTest {
    private static final Check CHECK = new Check();

    public static void main(String[] args) {
        variables();
        flagsAndWords();
        places();
        combined();
        nested();
        CHECK.end();
    }

    /** A scene whose logic sets flag 15 if the test holds. */
    private static SceneCycle asking(int... test) {
        return Scenes.withLogic(Scenes.join(Scenes.bytes(5, 15, 8), test, Scenes.bytes(2, 4, 15)));
    }

    private static void due(String what, boolean holds, SceneCycle scene, int word) {
        CHECK.due(what + ": steps", holds ? 3 : 2, scene.cycle(word, 0, 0));
        CHECK.due(what, holds, scene.flag(15));
    }

    private static void variables() {
        int[] numbers = {0, 1, 99, 100, 101, 255};
        for (int n : numbers) {
            SceneCycle equal = asking(0, 3, 100);
            equal.give(3, n);
            due(n + " is 100", n == 100, equal, 0);
            SceneCycle below = asking(1, 3, 100);
            below.give(3, n);
            due(n + " is below 100", n < 100, below, 0);
        }
        due("0 is below 0", false, asking(1, 3, 0), 0);
    }

    private static void flagsAndWords() {
        SceneCycle scene = asking(2, 7);
        due("flag is not set", false, scene, 0);
        scene.mark(7, true);
        due("flag is set", true, scene, 0);
        SceneCycle word = asking(3, 9);
        due("word 9", true, word, 9);
        due("word 8", false, word, 8);
        due("no word", false, word, 0);
        due("word 9 again", true, word, 9);
        due("word 255", true, asking(3, 255), 255);
        due("word 1", true, asking(3, 1), 1);
        due("no word is not the word 1", false, asking(3, 1), 0);
    }

    private static boolean within(int left, int top, int right, int bottom) {
        SceneCycle scene = Scenes.withLogic(9, 1, 5, 6, 11, 1, 3, 2,
                8, 4, 1, left, top, right, bottom, 2, 4, 15);
        Scenes.plainCycle(scene);
        return scene.flag(15);
    }

    private static void places() {
        CHECK.due("just so", true, within(5, 6, 7, 6));
        CHECK.due("wide", true, within(0, 0, 15, 11));
        CHECK.due("too far left", false, within(6, 6, 7, 6));
        CHECK.due("too far right", false, within(5, 6, 6, 6));
        CHECK.due("too far up", false, within(5, 7, 7, 11));
        CHECK.due("too far down", false, within(5, 0, 7, 5));
        CHECK.due("only the base counts", true, within(5, 6, 7, 7));
        CHECK.due("turned round", false, within(7, 6, 5, 6));
        SceneCycle hidden = asking(4, 1, 0, 0, 15, 11);
        due("not shown", false, hidden, 0);
        SceneCycle other = Scenes.withLogic(9, 1, 5, 6, 8, 4, 2, 0, 0, 15, 11, 2, 4, 15);
        Scenes.plainCycle(other);
        CHECK.due("another object is shown", false, other.flag(15));
    }

    private static void combined() {
        for (int bits = 0; bits < 4; bits++) {
            boolean a = (bits & 1) != 0;
            boolean b = (bits & 2) != 0;
            int[][] tests = {{5, 2, 6}, {6, 2, 6, 2, 7}, {7, 2, 6, 2, 7}, {5, 6, 2, 6, 2, 7}, {6, 5, 2, 6, 2, 7}};
            boolean[] due = {!a, a && b, a || b, !(a && b), !a && b};
            for (int i = 0; i < tests.length; i++) {
                SceneCycle scene = asking(tests[i]);
                scene.mark(6, a);
                scene.mark(7, b);
                due("combination " + i + " of " + a + " and " + b, due[i], scene, 0);
            }
        }
    }

    private static void nested() {
        SceneCycle six = asking(5, 5, 5, 5, 5, 5, 2, 6);
        due("six times not, flag not set", false, six, 0);
        six.mark(6, true);
        due("six times not, flag set", true, six, 0);
        int[] mixed = {7, 6, 2, 6, 5, 3, 9, 6, 7, 2, 7, 0, 3, 4, 5, 1, 3, 3};
        SceneCycle scene = asking(mixed);
        due("(6 and no word 9), or ((7 or 4) and not below 3)", false, scene, 0);
        scene.mark(6, true);
        due("by the first", true, scene, 0);
        due("not by the first", false, scene, 9);
        scene.give(3, 4);
        due("by the second", true, scene, 9);
        scene.give(3, 5);
        due("not by the second", false, scene, 9);
        scene.mark(7, true);
        due("by the second again", true, scene, 9);
    }
}
