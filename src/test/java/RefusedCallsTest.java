import java.util.function.Function;
import java.util.function.Supplier;
import java.util.function.ToIntFunction;

/**
 * "A call that answers false, or that is said to be refused, changes nothing": of two scenes in the
 * same state one gets the refused call; whatever is asked of both then, and done with them, they
 * answer the same.
 */
public final class RefusedCallsTest {
    private static final Check CHECK = new Check();
    private static final int REFUSED = -1;
    private static final int FALSE = 0;

    public static void main(String[] args) {
        CHECK.sentence("A call that answers false, or that is said to be refused, changes nothing");
        wrongNumbers("new", RefusedCallsTest::fresh);
        wrongNumbers("half filled", RefusedCallsTest::halfFilled);
        wrongNumbers("full", RefusedCallsTest::full);
        wrongNumbers("playing", RefusedCallsTest::playing);
        wrongNumbers("overrun", RefusedCallsTest::overrun);
        wrongNumbers("deep", RefusedCallsTest::deep);
        tooManyBytes();
        loadedAlready();
        faults();
        whenOver();
        questions();
        CHECK.end();
    }

    private static SceneCycle fresh() {
        return new SceneCycle(30);
    }

    /** Every resource has bytes to which one byte more must come; 255 will do for each. */
    private static SceneCycle halfFilled() {
        SceneCycle scene = new SceneCycle(30);
        Scenes.putAll(scene, 0, 240, 5, 242, 2, 246, 3, 3);
        Scenes.putAll(scene, 1, 18, 9, 0, 5, 6, 6, 2, 6, 3, 1, 1);
        Scenes.putAll(scene, 2, 12, 0, 3, 2, 2);
        Scenes.putAll(scene, 3, 9, 3, 7, 8, 15, 3, 2, 3);
        return scene;
    }

    /** Every resource has 64 bytes, and none is loaded. */
    private static SceneCycle full() {
        SceneCycle scene = new SceneCycle(200);
        Scenes.putAll(scene, 0, Scenes.join(Scenes.repeat(58, 241), Scenes.bytes(240, 6, 246, 1, 1, 255)));
        Scenes.putAll(scene, 1, Scenes.join(Scenes.bytes(18, 6, 2, 6, 3), Scenes.repeat(59, 18)));
        Scenes.putAll(scene, 2, Scenes.repeat(32, 4, 2));
        Scenes.putAll(scene, 3, Scenes.join(Scenes.bytes(9, 0, 5, 6), Scenes.repeat(20, 2, 3, 200)));
        return scene;
    }

    /** Objects of all four modes are under way over a picture. */
    private static SceneCycle playing() {
        SceneCycle scene = new SceneCycle(30);
        Scenes.addLoaded(scene, 0, 240, 3, 242, 2, 244, 0, 6, 15, 6, 242, 1, 244, 4, 9, 240, 9, 246, 0, 0, 255);
        int[] once = {
            4, 15, 18, 9, 0, 5, 6, 12, 0, 3, 9, 1, 2, 9, 13, 1, 12, 4, 9,
            11, 2, 2, 3, 9, 2, 1, 4, 14, 2, 10, 9, 3, 14, 8, 15, 3, 16, 3, 15
        };
        int[] always = {2, 3, 1, 8, 3, 77, 2, 4, 7, 8, 5, 2, 15, once.length};
        Scenes.addLoaded(scene, 1, Scenes.join(always, once));
        Scenes.putAll(scene, 2, 4);
        for (int luck = 0; luck < 3; luck++) {
            CHECK.due("the test's own scene plays", true, scene.cycle(0, 0, luck) > 0);
        }
        return scene;
    }

    private static SceneCycle overrun() {
        SceneCycle scene = new SceneCycle(20);
        Scenes.addLoaded(scene, 1, 9, 0, 5, 6, 2, 3, 1, 7, 247);
        CHECK.due("the test's own scene is over", -2, scene.cycle(1, 3, 1));
        return scene;
    }

    private static SceneCycle deep() {
        SceneCycle scene = new SceneCycle(20);
        Scenes.addLoaded(scene, 1, 9, 0, 5, 6, 2, 3, 1, 6, 1);
        CHECK.due("the test's own scene is over", -3, scene.cycle(1, 3, 1));
        return scene;
    }

    /** What all numbers are, what more bytes, loads and cycles answer, and the numbers after each. */
    private static String later(SceneCycle scene) {
        StringBuilder text = new StringBuilder(Scenes.state(scene));
        for (int r = 0; r <= 3; r++) {
            text.append("\nput ").append(scene.put(r, 255, 1)).append(", load ").append(scene.load(r));
        }
        int[][] cycles = {{77, 0, 2}, {0, 5, 6}, {0, 5, 1}, {9, 0, 255}};
        for (int[] c : cycles) {
            text.append("\ncycle ").append(scene.cycle(c[0], c[1], c[2])).append('\n').append(Scenes.state(scene));
        }
        return text.toString();
    }

    private static String cells(SceneCycle scene) {
        return Scenes.layerOf(scene, 0) + Scenes.layerOf(scene, 1);
    }

    private static String laterCells(SceneCycle scene) {
        for (int r = 0; r <= 3; r++) {
            scene.put(r, 255, 1);
            scene.load(r);
        }
        scene.cycle(0, 0, 2);
        return cells(scene);
    }

    private static String seenNowAndLater(SceneCycle scene) {
        String now = Scenes.seenAll(scene);
        scene.cycle(0, 0, 2);
        return now + Scenes.seenAll(scene);
    }

    private static void changesNothing(String what, int due, Supplier<SceneCycle> state,
            ToIntFunction<SceneCycle> call) {
        view(what, due, state, call, RefusedCallsTest::later);
        view(what, due, state, call, RefusedCallsTest::cells);
        view(what, due, state, call, RefusedCallsTest::laterCells);
        view(what, due, state, call, RefusedCallsTest::seenNowAndLater);
    }

    /** A view of its own for each pair, so that no scene has more than 512 calls. */
    private static void view(String what, int due, Supplier<SceneCycle> state,
            ToIntFunction<SceneCycle> call, Function<SceneCycle, String> view) {
        SceneCycle called = state.get();
        SceneCycle left = state.get();
        CHECK.due(what, due, call.applyAsInt(called));
        CHECK.due(what + ": later", view.apply(left), view.apply(called));
    }

    private static void wrongNumbers(String state, Supplier<SceneCycle> make) {
        int[] noResource = {-1, 4, Integer.MIN_VALUE, Integer.MAX_VALUE};
        for (int r : noResource) {
            changesNothing(state + ": put to " + r, REFUSED, make, s -> s.put(r, 0x01020304, 4));
            changesNothing(state + ": load of " + r, REFUSED, make, s -> s.load(r));
        }
        int[] noCount = {-1, 0, 5, Integer.MIN_VALUE, Integer.MAX_VALUE};
        for (int count : noCount) {
            for (int r = 0; r <= 3; r++) {
                int to = r;
                changesNothing(state + ": put of " + count, REFUSED, make, s -> s.put(to, 255, count));
            }
        }
        int[] noByte = {-1, 256, Integer.MIN_VALUE, Integer.MAX_VALUE};
        for (int n : noByte) {
            changesNothing(state + ": word " + n, REFUSED, make, s -> s.cycle(n, 4, 3));
            changesNothing(state + ": luck " + n, REFUSED, make, s -> s.cycle(77, 4, n));
            changesNothing(state + ": give " + n, FALSE, make, s -> s.give(3, n) ? 1 : 0);
        }
        int[] noKey = {-1, 9, Integer.MIN_VALUE, Integer.MAX_VALUE};
        for (int key : noKey) {
            changesNothing(state + ": key " + key, REFUSED, make, s -> s.cycle(77, key, 3));
        }
        int[] noneOfSixteen = {-1, 16, Integer.MIN_VALUE, Integer.MAX_VALUE};
        for (int i : noneOfSixteen) {
            changesNothing(state + ": give to " + i, FALSE, make, s -> s.give(i, 9) ? 1 : 0);
            changesNothing(state + ": mark " + i, FALSE, make, s -> s.mark(i, true) ? 1 : 0);
            changesNothing(state + ": mark off " + i, FALSE, make, s -> s.mark(i, false) ? 1 : 0);
        }
    }

    private static void tooManyBytes() {
        for (int r = 0; r <= 3; r++) {
            int to = r;
            for (int count = 1; count <= 4; count++) {
                int more = count;
                changesNothing("put of " + count + " to a full one", REFUSED, RefusedCallsTest::full,
                        s -> s.put(to, 255, more));
                for (int free = 1; free < count; free++) {
                    int[] bytes = Scenes.repeat(64 - free, r == 0 ? 241 : 18);
                    changesNothing("put of " + count + " where " + free + " are free", REFUSED, () -> {
                        SceneCycle scene = new SceneCycle(200);
                        Scenes.putAll(scene, to, bytes);
                        return scene;
                    }, s -> s.put(to, -1, more));
                }
            }
        }
    }

    private static SceneCycle allLoaded() {
        SceneCycle scene = halfFilled();
        for (int r = 0; r <= 3; r++) {
            scene.put(r, 255, 1);
            CHECK.due("the test's own bytes are loaded", true, scene.load(r) >= 0);
        }
        return scene;
    }

    private static void loadedAlready() {
        for (int r = 0; r <= 3; r++) {
            int to = r;
            for (int count = 1; count <= 4; count++) {
                int more = count;
                changesNothing("put to a loaded one", REFUSED, RefusedCallsTest::allLoaded,
                        s -> s.put(to, 0, more));
            }
            changesNothing("load of a loaded one", REFUSED, RefusedCallsTest::allLoaded, s -> s.load(to));
        }
        changesNothing("load of an empty logic, loaded", REFUSED, () -> {
            SceneCycle scene = fresh();
            scene.load(1);
            return scene;
        }, s -> s.load(1));
    }

    private static void faults() {
        int[] sizes = {7, 11, 5, 8};
        for (int r = 0; r <= 3; r++) {
            int of = r;
            changesNothing("load where more must follow", -2 - sizes[r], RefusedCallsTest::halfFilled,
                    s -> s.load(of));
            changesNothing("load of a byte at fault", -2 - sizes[r] - (r == 0 ? 0 : 1), () -> {
                SceneCycle scene = halfFilled();
                scene.put(of, of == 0 ? 247 : 0x00ff, of == 0 ? 1 : 2);
                return scene;
            }, s -> s.load(of));
        }
        changesNothing("load of an empty picture", -2, RefusedCallsTest::fresh, s -> s.load(0));
        changesNothing("load of another one while playing", -3, RefusedCallsTest::playing, s -> s.load(2));
        changesNothing("load of a GOTO that leads wrong", -2, () -> {
            SceneCycle scene = fresh();
            Scenes.putAll(scene, 1, 7, 4, 4, 9, 1, 3);
            scene.put(1, 7, 1);
            return scene;
        }, s -> s.load(1));
    }

    private static void whenOver() {
        changesNothing("a cycle after OVERRUN", REFUSED, RefusedCallsTest::overrun, s -> s.cycle(5, 4, 3));
        changesNothing("a cycle after DEEP", REFUSED, RefusedCallsTest::deep, s -> s.cycle(5, 4, 3));
        changesNothing("a cycle without a word", REFUSED, RefusedCallsTest::overrun, s -> s.cycle(0, 0, 0));
    }

    /** Questions are not refused, but they too leave all as it is, those with a wrong number as well. */
    private static void questions() {
        CHECK.sentence("Nothing is promised beyond the answers and state changes described above");
        changesNothing("variable 16", -1, RefusedCallsTest::playing, s -> s.variable(16));
        changesNothing("flag 16", 0, RefusedCallsTest::playing, s -> s.flag(16) ? 1 : 0);
        changesNothing("object 4", -1, RefusedCallsTest::playing, s -> s.object(4, 0));
        changesNothing("number 8", -1, RefusedCallsTest::playing, s -> s.object(3, 8));
        changesNothing("cell 16", -1, RefusedCallsTest::playing, s -> s.cell(16, 0, 0));
        changesNothing("layer 2", -1, RefusedCallsTest::playing, s -> s.cell(0, 0, 2));
        changesNothing("seen 16", -1, RefusedCallsTest::playing, s -> s.seen(16, 0));
        changesNothing("cycles", 3, RefusedCallsTest::playing, SceneCycle::cycles);
        changesNothing("steps", 3, RefusedCallsTest::playing, SceneCycle::steps);
    }
}
