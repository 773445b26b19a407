import java.util.Random;

/** Any calls in any order: none throws, every answer is one of those that the document knows. */
public final class WildCallsTest {
    private static final Check CHECK = new Check();
    // With the loads in between and the questions at the end, no object has more than 512 calls.
    private static final int CALLS = 300;

    public static void main(String[] args) {
        for (int seed = 0; seed < 1500; seed++) {
            Random random = new Random(seed);
            SceneCycle scene = new SceneCycle(number(random, 200));
            SceneCycle twin = new SceneCycle(200);
            for (int call = 0; call < CALLS; call++) {
                anyCall(scene, random);
            }
            atTheEnd(scene, seed);
            CHECK.due("another object", 0, twin.cycles() + twin.variable(1) + twin.object(1, 0));
        }
        CHECK.end();
    }

    /** Mostly 0 to greatest, now and then anything. */
    private static int number(Random random, int greatest) {
        int kind = random.nextInt(40);
        if (kind == 0) {
            return random.nextInt();
        }
        return kind == 1 ? greatest + 1 : kind == 2 ? -1 : random.nextInt(greatest + 1);
    }

    /** A byte as it often stands in a resource. */
    private static int likelyByte(Random random, int resource) {
        int kind = random.nextInt(10);
        if (kind == 0) {
            return random.nextInt(256);
        }
        if (resource == 0) {
            return kind < 4 ? 240 + random.nextInt(7) : random.nextInt(12);
        }
        return random.nextInt(kind < 6 ? 4 : 19);
    }

    private static void anyCall(SceneCycle scene, Random random) {
        switch (random.nextInt(16)) {
            case 0:
            case 1:
            case 2: {
                int resource = number(random, 3);
                if (random.nextInt(9) == 0) {
                    range("put", scene.put(resource, random.nextInt(), number(random, 4)), -1, 64);
                } else if (scene.put(resource, likelyByte(random, resource), 1) > 0) {
                    // A resource without a fault is soon loaded, so that its programs are run.
                    tryLoad(scene, resource, random);
                }
                break;
            }
            case 3: range("load", scene.load(number(random, 3)), -66, 64); break;
            case 4: range("cycles", scene.cycles(), 0, CALLS); break;
            case 5: range("steps", scene.steps(), 0, 200); break;
            case 6: range("variable", scene.variable(number(random, 15)), -1, 255); break;
            case 7: scene.give(number(random, 15), number(random, 255)); break;
            case 8: scene.flag(number(random, 15)); break;
            case 9: scene.mark(number(random, 15), random.nextBoolean()); break;
            case 10: range("object", scene.object(number(random, 3), number(random, 7)), -1, 15); break;
            case 11: range("cell", scene.cell(number(random, 15), number(random, 11), number(random, 1)), -1, 15); break;
            case 12: range("seen", scene.seen(number(random, 15), number(random, 11)), -1, 19); break;
            default: anyCycle(scene, random); break;
        }
    }

    private static void tryLoad(SceneCycle scene, int resource, Random random) {
        if (random.nextInt(4) == 0) {
            range("load", scene.load(resource), -66, 64);
        }
    }

    private static void anyCycle(SceneCycle scene, Random random) {
        int answer = scene.cycle(number(random, 255), number(random, 8), number(random, 255));
        range("cycle", answer, -3, 200);
    }

    private static void atTheEnd(SceneCycle scene, int seed) {
        for (int o = 0; o < 4; o++) {
            int x = scene.object(o, Scenes.X);
            range("column", x, 0, 16 - scene.object(o, Scenes.WIDTH));
            range("row", scene.object(o, Scenes.Y), 0, 11);
        }
        CHECK.due("asking changes nothing, run " + seed, Scenes.state(scene), Scenes.state(scene));
    }

    private static void range(String what, int answer, int least, int greatest) {
        CHECK.due(what + " answers " + answer, true, answer >= least && answer <= greatest);
    }
}
