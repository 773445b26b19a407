/**
 * The boundary cases of RESOURCES and of the promises 2, put, and 3, load: a test of its own for
 * each sentence.
 */
public final class ResourcesBoundaryTest {
    private static final Check CHECK = new Check();

    public static void main(String[] args) {
        atMostSixtyFour();
        allSixtyFourCount();
        everyByteValue();
        fourResources();
        lowestBytesHighestFirst();
        oneToFourBytes();
        noBytesOnceLoaded();
        loadedAtMostOnce();
        notLoadedWithAFault();
        placeOfAFault();
        moreMustFollow();
        howMany();
        CHECK.end();
    }

    /** A scene whose resource has that many bytes: commands or instructions without numbers. */
    private static SceneCycle holding(int resource, int size) {
        SceneCycle scene = new SceneCycle(200);
        Scenes.putAll(scene, resource, Scenes.repeat(size, resource == 0 ? 241 : 0));
        return scene;
    }

    private static void atMostSixtyFour() {
        CHECK.sentence("refused with -1 when ... it would have more than 64");
        for (int r = 0; r <= 3; r++) {
            for (int count = 1; count <= 4; count++) {
                SceneCycle fits = holding(r, 64 - count);
                CHECK.due(count + " up to 64", 64, fits.put(r, 0, count));
                CHECK.due("one behind", -1, fits.put(r, 0, 1));
                for (int free = 0; free < count; free++) {
                    SceneCycle full = holding(r, 64 - free);
                    CHECK.due(count + " where " + free + " are free", -1, full.put(r, 0, count));
                    if (free > 0) {
                        CHECK.due("none was added", 64, full.put(r, 0, free));
                    }
                }
            }
        }
        SceneCycle apart = holding(1, 64);
        CHECK.due("another resource has room", 4, apart.put(2, 0, 4));
    }

    private static void allSixtyFourCount() {
        CHECK.sentence("rows of bytes 0 .. 255, at most 64 each");
        int[] logic = Scenes.join(Scenes.repeat(61, 0), Scenes.bytes(1, 3, 77));
        logic[0] = 7;
        logic[1] = 59;
        SceneCycle scene = new SceneCycle(50);
        Scenes.addLoaded(scene, 1, logic);
        CHECK.due("two instructions are run", 2, Scenes.plainCycle(scene));
        CHECK.due("the 64th byte", 77, scene.variable(3));
        int[] picture = Scenes.join(Scenes.repeat(58, 241), Scenes.bytes(240, 6, 244, 15, 11, 255));
        CHECK.due("a picture of 64", 6, Scenes.played(picture, 18).cell(15, 11, 0));
    }

    private static void everyByteValue() {
        CHECK.sentence("rows of bytes 0 .. 255");
        for (int n = 0; n <= 255; n++) {
            SceneCycle scene = Scenes.withLogic(1, 3, n);
            Scenes.plainCycle(scene);
            CHECK.due("the byte " + n, n, scene.variable(3));
        }
    }

    private static void fourResources() {
        CHECK.sentence("refused with -1 when there is no such resource");
        SceneCycle scene = new SceneCycle(50);
        CHECK.due("put to -1", -1, scene.put(-1, 255, 1));
        CHECK.due("put to 4", -1, scene.put(4, 255, 1));
        CHECK.due("load of -1", -1, scene.load(-1));
        CHECK.due("load of 4", -1, scene.load(4));
        for (int far : Scenes.FAR) {
            CHECK.due("put to " + far, -1, scene.put(far, 255, 1));
            CHECK.due("load of " + far, -1, scene.load(far));
        }
        for (int r = 0; r <= 3; r++) {
            CHECK.due("put to " + r, 1, scene.put(r, r == 0 ? 255 : 0, 1));
            CHECK.due("load of " + r, r == 0 ? 0 : 1, scene.load(r));
        }
        CHECK.sentence("0 the PICTURE, 1 to 3 the LOGICS");
        CHECK.due("a picture's end", 0, Scenes.loadAnswer(0, 255));
        CHECK.due("an instruction in a picture", -2, Scenes.loadAnswer(0, 18));
        for (int r = 1; r <= 3; r++) {
            CHECK.due("a picture's end in logic " + r, -2, Scenes.loadAnswer(r, 255));
            CHECK.due("an instruction in logic " + r, 1, Scenes.loadAnswer(r, 18));
        }
    }

    /** The first byte that the word adds; the others, if any, must be 0, which is an instruction. */
    private static int firstByteOf(int word, int count) {
        SceneCycle scene = new SceneCycle(50);
        Scenes.putAll(scene, 1, 1, 9);
        CHECK.due("put of " + count, 2 + count, scene.put(1, word, count));
        CHECK.due("load", count, scene.load(1));
        Scenes.plainCycle(scene);
        return scene.variable(9);
    }

    private static void lowestBytesHighestFirst() {
        CHECK.sentence("Adds the count lowest bytes of word to a resource, the highest of them first");
        CHECK.due("one byte", 0x78, firstByteOf(0x12345678, 1));
        CHECK.due("two bytes", 0x56, firstByteOf(0x12345600, 2));
        CHECK.due("three bytes", 0x34, firstByteOf(0x12340000, 3));
        CHECK.due("four bytes", 0x12, firstByteOf(0x12000000, 4));
        CHECK.due("the least word", 128, firstByteOf(Integer.MIN_VALUE, 4));
        CHECK.due("the highest byte full", 255, firstByteOf(0xff000000, 4));
        CHECK.due("one byte of -1", 255, firstByteOf(-1, 1));
        CHECK.due("one byte of the greatest word", 255, firstByteOf(Integer.MAX_VALUE, 1));
        CHECK.due("one byte of 256", 0, firstByteOf(256, 1));
        CHECK.due("two bytes of 65536", 0, firstByteOf(65536, 2));
        CHECK.due("three bytes of 16777216", 0, firstByteOf(16777216, 3));
        SceneCycle order = new SceneCycle(50);
        CHECK.due("four", 4, order.put(1, 0x01020304, 4));
        CHECK.due("and one", 5, order.put(1, 0x0505, 1));
        CHECK.due("and three", 8, order.put(1, 0xff010607, 3));
        CHECK.due("and two", 10, order.put(1, 0xffff0408, 2));
        CHECK.due("1 2 3, 4 5, 1 6 7, 4 8", 4, order.load(1));
        Scenes.plainCycle(order);
        CHECK.due("variable 2", 3, order.variable(2));
        CHECK.due("flag 5", true, order.flag(5));
        CHECK.due("variable 6", 7, order.variable(6));
        CHECK.due("flag 8", true, order.flag(8));
    }

    private static void oneToFourBytes() {
        CHECK.sentence("count is not 1 .. 4");
        SceneCycle scene = new SceneCycle(50);
        for (int r = 0; r <= 3; r++) {
            CHECK.due("count 0", -1, scene.put(r, 0, 0));
            CHECK.due("count -1", -1, scene.put(r, 0, -1));
            CHECK.due("count 5", -1, scene.put(r, 0, 5));
            for (int far : Scenes.FAR) {
                CHECK.due("count " + far, -1, scene.put(r, 0, far));
            }
            CHECK.due("count 1", 1, scene.put(r, 0, 1));
            CHECK.due("count 4", 5, scene.put(r, 0, 4));
        }
        SceneCycle full = holding(1, 64);
        CHECK.due("count 0 with all 64", -1, full.put(1, 0, 0));
        CHECK.due("count -1 with all 64", -1, full.put(1, 0, -1));
    }

    private static void noBytesOnceLoaded() {
        CHECK.sentence("Bytes are added until the resource is LOADED");
        for (int r = 0; r <= 3; r++) {
            SceneCycle scene = new SceneCycle(50);
            CHECK.due("before", 1, scene.put(r, r == 0 ? 255 : 18, 1));
            CHECK.due("load", r == 0 ? 0 : 1, scene.load(r));
            for (int count = 1; count <= 4; count++) {
                CHECK.due("behind", -1, scene.put(r, 0, count));
            }
            for (int other = 0; other <= 3; other++) {
                CHECK.due("to " + other, other == r ? -1 : 1, scene.put(other, 0, 1));
            }
        }
        SceneCycle empty = new SceneCycle(50);
        CHECK.due("an empty logic", 0, empty.load(1));
        CHECK.due("behind", -1, empty.put(1, 0, 1));
        CHECK.due("nothing is run", 0, Scenes.plainCycle(empty));
    }

    private static void loadedAtMostOnce() {
        CHECK.sentence("which happens at most once");
        for (int r = 0; r <= 3; r++) {
            SceneCycle scene = new SceneCycle(50);
            scene.put(r, r == 0 ? 255 : 18, 1);
            CHECK.due("the first time", r == 0 ? 0 : 1, scene.load(r));
            CHECK.due("the second time", -1, scene.load(r));
            CHECK.due("the third time", -1, scene.load(r));
        }
        SceneCycle empty = new SceneCycle(50);
        CHECK.due("an empty logic", 0, empty.load(2));
        CHECK.due("again", -1, empty.load(2));
        CHECK.due("another one", 0, empty.load(3));
    }

    private static void notLoadedWithAFault() {
        CHECK.sentence("if it has no FAULT");
        SceneCycle scene = new SceneCycle(50);
        Scenes.putAll(scene, 0, 240, 5, 246, 0, 0);
        Scenes.putAll(scene, 1, 4, 9, 18, 6, 2, 4);
        Scenes.putAll(scene, 2, 4, 8, 4);
        CHECK.due("the picture", -7, scene.load(0));
        CHECK.due("the picture again", -7, scene.load(0));
        CHECK.due("logic 1", -8, scene.load(1));
        CHECK.due("logic 2", -5, scene.load(2));
        CHECK.due("nothing is run", 0, Scenes.plainCycle(scene));
        CHECK.due("flag 9", false, scene.flag(9));
        scene.put(1, 7, 1);
        CHECK.due("logic 1 without a fault", 4, scene.load(1));
        CHECK.due("neither picture nor logic 2", 4, Scenes.plainCycle(scene));
        CHECK.due("flag 9", true, scene.flag(9));
        CHECK.due("flag 8", false, scene.flag(8));
        CHECK.due("the picture is not shown", 15, scene.cell(0, 0, 0));
        scene.put(0, 255, 1);
        scene.put(2, 6, 1);
        CHECK.due("the picture without a fault", 2, scene.load(0));
        CHECK.due("logic 2 without a fault", 2, scene.load(2));
        CHECK.due("both", 6, Scenes.plainCycle(scene));
        CHECK.due("flag 8", true, scene.flag(8));
        CHECK.due("the picture is shown", 5, scene.cell(0, 0, 0));
    }

    private static void placeOfAFault() {
        CHECK.sentence("that of the first byte that is not as it must be (place 0 is the first one)");
        for (int place = 0; place <= 63; place++) {
            int[] picture = Scenes.repeat(64, 241);
            picture[place] = 239;
            picture[63] = place == 63 ? 239 : 255;
            CHECK.due("of a picture", -2 - place, Scenes.loadAnswer(0, picture));
            int[] logic = Scenes.repeat(64, 0);
            logic[place] = 19;
            CHECK.due("of a logic", -2 - place, Scenes.loadAnswer(1, logic));
            logic[63] = 255;
            CHECK.due("the first of two", -2 - place, Scenes.loadAnswer(2, logic));
        }
    }

    private static void moreMustFollow() {
        CHECK.sentence("when all are but more must follow, the number of bytes");
        for (int size = 0; size <= 64; size++) {
            CHECK.due("a picture without its end", -2 - size,
                    Scenes.loadAnswer(0, Scenes.repeat(size, 243)));
            if (size > 0) {
                int[] logic = Scenes.repeat(size, 0);
                CHECK.due("a logic of RETURNs", size, Scenes.loadAnswer(3, logic));
                logic[size - 1] = 15;
                CHECK.due("a logic that breaks off", -2 - size, Scenes.loadAnswer(3, logic));
            }
        }
        CHECK.due("none need follow an empty logic", 0, Scenes.loadAnswer(1));
    }

    private static void howMany() {
        CHECK.sentence("Answers how many commands (the 255 not counted) or instructions it has");
        CHECK.due("no command", 0, Scenes.loadAnswer(0, 255));
        CHECK.due("one command", 1, Scenes.loadAnswer(0, 241, 255));
        CHECK.due("the most commands", 63,
                Scenes.loadAnswer(0, Scenes.join(Scenes.repeat(63, 243), Scenes.bytes(255))));
        CHECK.due("one command of many points", 1, Scenes.loadAnswer(0,
                Scenes.join(Scenes.bytes(246), Scenes.repeat(31, 15, 11), Scenes.bytes(255))));
        CHECK.due("no instruction", 0, Scenes.loadAnswer(2));
        CHECK.due("one instruction", 1, Scenes.loadAnswer(2, 0));
        CHECK.due("the most instructions", 64, Scenes.loadAnswer(2, Scenes.repeat(64, 18)));
        CHECK.due("one instruction of many tests", 1, Scenes.loadAnswer(2,
                Scenes.join(Scenes.bytes(8), Scenes.repeat(6, 6), Scenes.repeat(7, 2, 3), Scenes.bytes(0))));
    }
}
