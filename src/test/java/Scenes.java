/** Makes scenes from written-out bytes, and tells what they show as text. */
final class Scenes {
    static final int X = 0;
    static final int Y = 1;
    static final int DIRECTION = 2;
    static final int MODE = 3;
    static final int PRIORITY = 4;
    static final int SHOWN = 5;
    static final int WIDTH = 6;
    static final int HEIGHT = 7;
    static final int[] NO_PICTURE = {};
    /** Numbers that lie far out of every range. */
    static final int[] FAR = {Integer.MIN_VALUE, -1000, 1000, Integer.MAX_VALUE};

    private Scenes() {
    }

    static int[] bytes(int... bytes) {
        return bytes;
    }

    static int[] repeat(int times, int... bytes) {
        int[] all = new int[times * bytes.length];
        for (int i = 0; i < all.length; i++) {
            all[i] = bytes[i % bytes.length];
        }
        return all;
    }

    static int[] join(int[]... parts) {
        int size = 0;
        for (int[] part : parts) {
            size += part.length;
        }
        int[] all = new int[size];
        int at = 0;
        for (int[] part : parts) {
            System.arraycopy(part, 0, all, at, part.length);
            at += part.length;
        }
        return all;
    }

    static void putAll(SceneCycle scene, int resource, int... bytes) {
        for (int at = 0; at < bytes.length; at += 4) {
            int count = Math.min(4, bytes.length - at);
            int word = 0;
            for (int i = 0; i < count; i++) {
                word = word << 8 | bytes[at + i];
            }
            if (scene.put(resource, word, count) != at + count) {
                throw new IllegalStateException("the test's own bytes are refused");
            }
        }
    }

    /** What load answers on a new object for these bytes. */
    static int loadAnswer(int resource, int... bytes) {
        SceneCycle scene = new SceneCycle(200);
        putAll(scene, resource, bytes);
        return scene.load(resource);
    }

    static void addLoaded(SceneCycle scene, int resource, int... bytes) {
        putAll(scene, resource, bytes);
        int answer = scene.load(resource);
        if (answer < 0) {
            throw new IllegalStateException("the test's own bytes do not load: " + answer);
        }
    }

    /** A new scene of the greatest limit whose logic 1 has these bytes. */
    static SceneCycle withLogic(int... logic) {
        SceneCycle scene = new SceneCycle(200);
        addLoaded(scene, 1, logic);
        return scene;
    }

    /**
     * A scene whose logic does the given instructions in its first cycle alone: flag 15 tells
     * that they were done.
     */
    static SceneCycle onceOnly(int[] picture, int... instructions) {
        SceneCycle scene = new SceneCycle(200);
        if (picture.length > 0) {
            addLoaded(scene, 0, picture);
        }
        int[] head = {8, 5, 2, 15, instructions.length + 2, 4, 15};
        addLoaded(scene, 1, join(head, instructions));
        return scene;
    }

    /** Such a scene after its first cycle. */
    static SceneCycle played(int[] picture, int... instructions) {
        SceneCycle scene = onceOnly(picture, instructions);
        plainCycle(scene);
        return scene;
    }

    /** The picture as it is shown, of one layer: a row of hexadecimal digits for each row. */
    static String shown(int layer, int... picture) {
        SceneCycle scene = new SceneCycle(200);
        addLoaded(scene, 0, picture);
        addLoaded(scene, 1, 18);
        scene.cycle(0, 0, 0);
        return layerOf(scene, layer);
    }

    static String layerOf(SceneCycle scene, int layer) {
        StringBuilder text = new StringBuilder();
        for (int y = 0; y < 12; y++) {
            for (int x = 0; x < 16; x++) {
                text.append(Character.forDigit(scene.cell(x, y, layer), 16));
            }
            text.append('\n');
        }
        return text.toString();
    }

    /** What is seen at all cells: a colour as a hexadecimal digit, objects 0 to 3 as A to D. */
    static String seenAll(SceneCycle scene) {
        StringBuilder text = new StringBuilder();
        for (int y = 0; y < 12; y++) {
            for (int x = 0; x < 16; x++) {
                int seen = scene.seen(x, y);
                text.append(seen < 16 ? Character.forDigit(seen, 16) : (char) ('A' + seen - 16));
            }
            text.append('\n');
        }
        return text.toString();
    }

    /** Twelve rows of text: those given, and below them rows of one digit. */
    static String rows(char blank, String... given) {
        StringBuilder text = new StringBuilder();
        for (int y = 0; y < 12; y++) {
            String row = y < given.length ? given[y] : "";
            text.append(row);
            for (int x = row.length(); x < 16; x++) {
                text.append(blank);
            }
            text.append('\n');
        }
        return text.toString();
    }

    /** All that can be asked of a scene but its cells. */
    static String state(SceneCycle scene) {
        StringBuilder text = new StringBuilder();
        text.append(scene.cycles()).append(' ').append(scene.steps()).append('\n');
        for (int i = 0; i < 16; i++) {
            text.append(scene.variable(i)).append(scene.flag(i) ? "! " : " ");
        }
        for (int o = 0; o < 4; o++) {
            text.append('\n').append(place(scene, o));
            for (int what = DIRECTION; what <= HEIGHT; what++) {
                text.append(' ').append(scene.object(o, what));
            }
        }
        return text.toString();
    }

    static String place(SceneCycle scene, int o) {
        return scene.object(o, X) + "," + scene.object(o, Y);
    }

    /** A cycle without word, key and luck. */
    static int plainCycle(SceneCycle scene) {
        return scene.cycle(0, 0, 0);
    }
}
