/** Promise 3: load, of the picture. */
public final class LoadPictureTest {
    private static final Check CHECK = new Check();

    public static void main(String[] args) {
        endings();
        pens();
        points();
        steps();
        longRows();
        loadedOnce();
        CHECK.end();
    }

    private static void due(int answer, int... picture) {
        CHECK.due("load of " + java.util.Arrays.toString(picture), answer,
                Scenes.loadAnswer(0, picture));
    }

    private static void endings() {
        due(-2);
        due(0, 255);
        due(-3, 255, 255);
        due(-3, 255, 0, 255);
        due(-2, 0);
        due(-2, 239);
        due(-2, 247, 255);
        due(-2, 254, 255);
        due(-4, 241, 243);
        due(2, 241, 243, 255);
        due(6, 240, 1, 242, 2, 244, 1, 1, 2, 2, 241, 243, 246, 0, 0, 255);
    }

    private static void pens() {
        for (int command = 240; command <= 242; command += 2) {
            due(-3, command);
            due(-3, command, 16, 255);
            due(-3, command, 255);
            due(-3, command, 241, 255);
            due(-4, command, 15);
            due(1, command, 15, 255);
            due(1, command, 0, 255);
            due(-4, command, 0, 0, 255);
        }
        for (int command = 241; command <= 243; command += 2) {
            due(-3, command);
            due(1, command, 255);
            due(-3, command, 0, 255);
        }
    }

    private static void points() {
        for (int command = 244; command <= 246; command++) {
            due(-3, command);
            due(-3, command, 255);
            due(-3, command, 16, 0, 255);
            due(-3, command, 240, 0, 255);
            due(-4, command, 15);
            due(-4, command, 15, 12, 255);
            due(-4, command, 15, 255);
            due(-5, command, 15, 11);
            due(1, command, 15, 11, 255);
            due(1, command, 0, 0, 255);
            due(-5, command, 0, 0, 247, 255);
            due(-5, command, 0, 0, 254, 255);
            due(2, command, 0, 0, command, 0, 0, 255);
        }
        for (int command = 244; command <= 246; command += 2) {
            due(-5, command, 0, 0, 16, 0, 255);
            due(-5, command, 0, 0, 239, 0, 255);
            due(-6, command, 0, 0, 3, 255);
            due(-6, command, 0, 0, 3, 12, 255);
            due(-6, command, 0, 0, 3, 241, 255);
            due(-6, command, 0, 0, 3);
            due(1, command, 0, 0, 15, 11, 0, 11, 15, 0, 255);
            due(-8, command, 0, 0, 15, 11, 0, 255);
        }
    }

    private static void steps() {
        due(-5, 245, 15, 0, 0x10, 255);
        due(1, 245, 14, 0, 0x10, 255);
        due(1, 245, 7, 0, 0x80, 255);
        due(-5, 245, 8, 0, 0x80, 255);
        due(-5, 245, 0, 0, 0x90, 255);
        due(1, 245, 1, 0, 0x90, 255);
        due(1, 245, 6, 0, 0xe0, 255);
        due(-5, 245, 5, 0, 0xe0, 255);
        due(-5, 245, 0, 11, 0x01, 255);
        due(1, 245, 0, 10, 0x01, 255);
        due(1, 245, 0, 3, 0x08, 255);
        due(-5, 245, 0, 4, 0x08, 255);
        due(-5, 245, 0, 0, 0x09, 255);
        due(1, 245, 0, 1, 0x09, 255);
        due(1, 245, 0, 7, 0x0f, 255);
        due(-5, 245, 0, 6, 0x0f, 255);
        due(1, 245, 6, 7, 239, 255);
        due(-6, 245, 6, 7, 240, 255);
        due(1, 245, 0, 0, 0, 0, 0, 255);
        due(-6, 245, 13, 0, 0x10, 0x20, 255);
        due(1, 245, 13, 0, 0x10, 0x10, 255);
    }

    private static void longRows() {
        due(-66, Scenes.repeat(32, 240, 0));
        due(63, Scenes.join(Scenes.repeat(63, 241), Scenes.bytes(255)));
        due(-65, Scenes.join(Scenes.repeat(63, 241), Scenes.bytes(0)));
    }

    private static void loadedOnce() {
        SceneCycle scene = new SceneCycle(50);
        CHECK.due("empty", -2, scene.load(0));
        Scenes.putAll(scene, 0, 240);
        CHECK.due("more must follow", -3, scene.load(0));
        CHECK.due("still so", -3, scene.load(0));
        scene.put(0, 0x05ff, 2);
        CHECK.due("mended by more bytes", 1, scene.load(0));
        CHECK.due("loaded already", -1, scene.load(0));
        CHECK.due("no such resource", -1, scene.load(-1));
        CHECK.due("no such resource", -1, scene.load(4));
        CHECK.due("no such resource", -1, scene.load(Integer.MIN_VALUE));
        CHECK.due("no such resource", -1, scene.load(Integer.MAX_VALUE));
        CHECK.due("loading shows nothing", Scenes.rows('f'), Scenes.layerOf(scene, 0));
    }
}
