/** Promise 2: put. */
public final class PutTest {
    public static void main(String[] args) {
        Check check = new Check();
        bytesOfWords(check);
        wrongNumbers(check);
        atMostSixtyFour(check);
        untilLoaded(check);
        check.end();
    }

    private static void bytesOfWords(Check check) {
        SceneCycle scene = new SceneCycle(50);
        check.due("three of four bytes", 3, scene.put(1, 0x7f010205, 3));
        check.due("four bytes", 7, scene.put(1, 0x01030702, 4));
        check.due("two of a negative word", 9, scene.put(1, 0xffff02ff, 2));
        check.due("load", 3, scene.load(1));
        check.due("cycle", 3, Scenes.plainCycle(scene));
        check.due("5, and 255 more", 4, scene.variable(2));
        check.due("the next word", 7, scene.variable(3));
        check.due("a byte of all ones", 1, scene.put(0, -1, 1));
        check.due("it is 255", 0, scene.load(0));
        check.due("resources are apart", 4, scene.put(2, 0, 4));
        check.due("resources are apart", 1, scene.put(3, 0, 1));
    }

    private static void wrongNumbers(Check check) {
        SceneCycle scene = new SceneCycle(50);
        int[][] wrong = {
            {-1, 1}, {4, 1}, {Integer.MIN_VALUE, 1}, {Integer.MAX_VALUE, 1}, {1, 0}, {1, -1}, {1, 5},
            {1, Integer.MAX_VALUE}, {1, Integer.MIN_VALUE}
        };
        for (int[] pair : wrong) {
            check.due("put(" + pair[0] + ", 0, " + pair[1] + ")", -1, scene.put(pair[0], 0, pair[1]));
        }
        check.due("nothing was added", 1, scene.put(1, 0, 1));
    }

    private static void atMostSixtyFour(Check check) {
        for (int r = 0; r < 4; r++) {
            SceneCycle scene = new SceneCycle(50);
            for (int i = 1; i <= 15; i++) {
                check.due("words", 4 * i, scene.put(r, 0, 4));
            }
            check.due("62", 62, scene.put(r, 0, 2));
            check.due("65 are too many", -1, scene.put(r, 0, 3));
            check.due("66 are too many", -1, scene.put(r, 0, 4));
            check.due("64", 64, scene.put(r, 0, 2));
            check.due("one more", -1, scene.put(r, 0, 1));
        }
    }

    private static void untilLoaded(Check check) {
        SceneCycle scene = new SceneCycle(16);
        check.due("one", 1, scene.put(1, 7, 1));
        check.due("a byte is missing", -3, scene.load(1));
        check.due("a fault leaves it open", 2, scene.put(1, 254, 1));
        check.due("load", 1, scene.load(1));
        check.due("loaded", -1, scene.put(1, 0, 1));
        check.due("over", -2, Scenes.plainCycle(scene));
        check.due("an over scene takes bytes", 2, scene.put(2, 0, 2));
    }
}
