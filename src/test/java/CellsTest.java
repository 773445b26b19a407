/** Promise 12: cell, and what the picture's commands draw. */
public final class CellsTest {
    private static final Check CHECK = new Check();

    public static void main(String[] args) {
        wrong();
        pens();
        lines();
        steppedLines();
        colourFills();
        controlFills();
        fillsThatDoNothing();
        showing();
        CHECK.end();
    }

    private static void wrong() {
        SceneCycle scene = new SceneCycle(50);
        int[] none = {-1, Integer.MIN_VALUE, Integer.MAX_VALUE};
        for (int i : none) {
            CHECK.due("column " + i, -1, scene.cell(i, 0, 0));
            CHECK.due("row " + i, -1, scene.cell(0, i, 1));
            CHECK.due("layer " + i, -1, scene.cell(0, 0, i));
        }
        CHECK.due("column 16", -1, scene.cell(16, 0, 0));
        CHECK.due("row 12", -1, scene.cell(0, 12, 0));
        CHECK.due("layer 2", -1, scene.cell(0, 0, 2));
        CHECK.due("the last cell's colour", 15, scene.cell(15, 11, 0));
        CHECK.due("the last cell's control", 4, scene.cell(15, 11, 1));
        Scenes.addLoaded(scene, 1, 9, 0, 5, 6);
        Scenes.plainCycle(scene);
        CHECK.due("objects do not count", 15, scene.cell(5, 6, 0));
    }

    private static void pens() {
        int[] picture = {
            244, 0, 0, 240, 3, 244, 1, 0, 242, 7, 244, 2, 0, 241, 244, 3, 0, 240, 0, 244, 4, 0,
            243, 244, 5, 0, 241, 244, 6, 0, 242, 0, 244, 7, 0, 255
        };
        CHECK.due("colours", Scenes.rows('f', "f33f00ff"), Scenes.shown(0, picture));
        CHECK.due("controls", Scenes.rows('4', "44777440"), Scenes.shown(1, picture));
        int[] back = {240, 3, 242, 2, 244, 0, 0, 3, 0, 240, 15, 244, 1, 0, 242, 4, 244, 2, 0, 255};
        CHECK.due("colour 15 is drawn too", Scenes.rows('f', "3ff3"), Scenes.shown(0, back));
        CHECK.due("control 4 is drawn too", Scenes.rows('4', "2242"), Scenes.shown(1, back));
    }

    private static void lines() {
        String gentle = Scenes.rows('f', "22ffff", "ff22ff", "ffff22");
        CHECK.due("gentle", gentle, Scenes.shown(0, 240, 2, 244, 0, 0, 5, 2, 255));
        CHECK.due("gentle, back", gentle, Scenes.shown(0, 240, 2, 244, 5, 2, 0, 0, 255));
        String steep = Scenes.rows('f', "2ff", "2ff", "f2f", "f2f", "ff2", "ff2");
        CHECK.due("steep", steep, Scenes.shown(0, 240, 2, 244, 0, 0, 2, 5, 255));
        CHECK.due("steep, back", steep, Scenes.shown(0, 240, 2, 244, 2, 5, 0, 0, 255));
        CHECK.due("in the midst", Scenes.rows('f', "f", "f", "fff22", "fffff22", "fffffff22"),
                Scenes.shown(0, 240, 2, 244, 3, 2, 8, 4, 255));
        CHECK.due("in the midst, steep", Scenes.rows('f', "f", "fffff2", "fffff2", "ffff2", "ffff2", "fff2", "fff2"),
                Scenes.shown(0, 240, 2, 244, 3, 6, 5, 1, 255));
        CHECK.due("halves go down", Scenes.rows('f', "2ff", "f22"),
                Scenes.shown(0, 240, 2, 244, 0, 0, 2, 1, 255));
        CHECK.due("halves go down, from below", Scenes.rows('f', "ff2", "22f"),
                Scenes.shown(0, 240, 2, 244, 0, 1, 2, 0, 255));
        CHECK.due("halves go right", Scenes.rows('f', "2f", "f2", "f2"),
                Scenes.shown(0, 240, 2, 244, 1, 2, 0, 0, 255));
        CHECK.due("several points", Scenes.rows('f', "2222", "fff2", "2222", "2fff"),
                Scenes.shown(0, 240, 2, 244, 0, 0, 3, 0, 3, 2, 0, 2, 0, 3, 255));
        CHECK.due("a point alone", Scenes.rows('f', "f", "ff2"),
                Scenes.shown(0, 240, 2, 244, 2, 1, 255));
        CHECK.due("the same point twice", Scenes.rows('f', "f", "ff2"),
                Scenes.shown(0, 240, 2, 244, 2, 1, 2, 1, 255));
        SceneCycle corners = new SceneCycle(50);
        Scenes.addLoaded(corners, 0, 240, 2, 244, 15, 11, 0, 0, 255);
        Scenes.addLoaded(corners, 1, 18);
        Scenes.plainCycle(corners);
        int[] rowOf = {0, 1, 1, 2, 3, 4, 4, 5, 6, 7, 7, 8, 9, 10, 10, 11};
        for (int x = 0; x < 16; x++) {
            CHECK.due("corner to corner, column " + x, 2, corners.cell(x, rowOf[x], 0));
        }
    }

    private static void steppedLines() {
        CHECK.due("a point alone", Scenes.rows('f', "f2"), Scenes.shown(0, 240, 2, 245, 1, 0, 255));
        CHECK.due("right, down, left, up", Scenes.rows('f', "2222", "2ff2", "2222"),
                Scenes.shown(0, 240, 2, 245, 0, 0, 0x30, 0x02, 0xb0, 0x0a, 255));
        CHECK.due("slanting", Scenes.rows('f', "2fff2", "f2f2f", "ff2ff"),
                Scenes.shown(0, 240, 2, 245, 0, 0, 0x22, 0x2a, 255));
        CHECK.due("eight to the right", Scenes.rows('f', "222222222f"),
                Scenes.shown(0, 240, 2, 245, 0, 0, 0x80, 255));
        CHECK.due("nowhere", Scenes.rows('f', "2"), Scenes.shown(0, 240, 2, 245, 0, 0, 0, 255));
    }

    private static void colourFills() {
        String[] walled = new String[12];
        for (int y = 0; y < 12; y++) {
            walled[y] = "5552ffffffffffff";
        }
        CHECK.due("up to a wall", Scenes.rows('f', walled),
                Scenes.shown(0, 240, 2, 244, 3, 0, 3, 11, 240, 5, 246, 0, 6, 255));
        for (int y = 0; y < 12; y++) {
            walled[y] = "fff2555555555555";
        }
        CHECK.due("up to a wall on the left", Scenes.rows('f', walled),
                Scenes.shown(0, 240, 2, 244, 3, 0, 3, 11, 240, 5, 246, 8, 6, 255));
        CHECK.due("not round a corner", Scenes.rows('f', "52", "2"),
                Scenes.shown(0, 240, 2, 244, 1, 0, 0, 1, 240, 5, 246, 0, 0, 255));
        CHECK.due("the whole screen", Scenes.rows('0'), Scenes.shown(0, 240, 0, 246, 15, 11, 255));
        CHECK.due("only once", Scenes.rows('5'),
                Scenes.shown(0, 240, 5, 246, 0, 0, 240, 6, 246, 0, 0, 255));
        CHECK.due("several points", Scenes.rows('f', "52552f", "222222"),
                Scenes.shown(0, 240, 2, 244, 0, 1, 5, 1, 244, 1, 0, 244, 4, 0,
                        240, 5, 246, 0, 0, 1, 0, 2, 0, 255));
        CHECK.due("through a narrow way", Scenes.rows('f', "22222222", "25555552", "22222252", "25552252", "25255552", "22222222"),
                Scenes.shown(0, 240, 2, 244, 0, 0, 7, 0, 7, 5, 0, 5, 0, 0, 244, 1, 2, 5, 2,
                        244, 4, 3, 5, 3, 244, 2, 4, 240, 5, 246, 1, 4, 255));
        int[] both = {240, 2, 244, 3, 0, 3, 11, 240, 5, 242, 9, 246, 0, 6, 255};
        for (int y = 0; y < 12; y++) {
            walled[y] = "9994444444444444";
        }
        CHECK.due("its control is drawn with it", Scenes.rows('4', walled), Scenes.shown(1, both));
    }

    private static void controlFills() {
        int[] picture = {242, 2, 244, 3, 0, 3, 11, 240, 7, 244, 0, 5, 15, 5, 241, 242, 9, 246, 0, 0, 255};
        String[] due = new String[12];
        for (int y = 0; y < 12; y++) {
            due[y] = y == 5 ? "2222222222222222" : y < 5 ? "9992444444444444" : "4442444444444444";
        }
        CHECK.due("up to other controls", Scenes.rows('4', due), Scenes.shown(1, picture));
        due = new String[] {"f", "f", "f", "f", "f", "7777777777777777"};
        CHECK.due("colours stay", Scenes.rows('f', due), Scenes.shown(0, picture));
        CHECK.due("the whole screen", Scenes.rows('0'), Scenes.shown(1, 242, 0, 246, 8, 8, 255));
        CHECK.due("over all colours", Scenes.rows('3'),
                Scenes.shown(1, 240, 7, 244, 0, 5, 15, 5, 241, 242, 3, 246, 0, 0, 255));
    }

    private static void fillsThatDoNothing() {
        int[][] pictures = {
            {246, 0, 0, 255}, {240, 15, 246, 0, 0, 255}, {242, 4, 246, 0, 0, 255},
            {240, 15, 242, 3, 246, 0, 0, 255}
        };
        for (int[] picture : pictures) {
            CHECK.due("colours", Scenes.rows('f'), Scenes.shown(0, picture));
            CHECK.due("controls", Scenes.rows('4'), Scenes.shown(1, picture));
        }
        int[] coloured = {240, 3, 244, 0, 0, 242, 7, 246, 0, 0, 255};
        CHECK.due("not from a coloured cell", Scenes.rows('f', "3"), Scenes.shown(0, coloured));
        CHECK.due("nor its control", Scenes.rows('4'), Scenes.shown(1, coloured));
        int[] controlled = {242, 3, 244, 0, 0, 242, 7, 246, 0, 0, 255};
        CHECK.due("not from a cell of control 3", Scenes.rows('4', "3"), Scenes.shown(1, controlled));
    }

    /** The second fill finds a blank cell only if the cells are not blank before the first one. */
    private static void shownAnew() {
        SceneCycle scene = new SceneCycle(50);
        Scenes.addLoaded(scene, 0, 240, 7, 246, 0, 0, 240, 5, 242, 9, 246, 8, 1, 243, 240, 15, 244, 8, 1, 255);
        Scenes.addLoaded(scene, 1, 18);
        Scenes.plainCycle(scene);
        Scenes.plainCycle(scene);
        CHECK.due("controls, twice shown", Scenes.rows('4'), Scenes.layerOf(scene, 1));
        CHECK.due("colours, twice shown", Scenes.rows('7', "7", "77777777f"), Scenes.layerOf(scene, 0));
    }

    private static void showing() {
        SceneCycle scene = new SceneCycle(50);
        Scenes.addLoaded(scene, 1, 18);
        Scenes.putAll(scene, 0, 240, 5, 242, 6, 244, 0, 0, 255);
        Scenes.plainCycle(scene);
        CHECK.due("not loaded yet", 15, scene.cell(0, 0, 0));
        scene.load(0);
        CHECK.due("not shown yet", 15, scene.cell(0, 0, 0));
        Scenes.plainCycle(scene);
        CHECK.due("colours", Scenes.rows('f', "5"), Scenes.layerOf(scene, 0));
        CHECK.due("controls", Scenes.rows('4', "6"), Scenes.layerOf(scene, 1));

        SceneCycle again = new SceneCycle(50);
        Scenes.addLoaded(again, 0, 244, 1, 1, 246, 2, 2, 240, 5, 242, 6, 244, 0, 0, 255);
        Scenes.addLoaded(again, 1, 18, 18);
        Scenes.plainCycle(again);
        Scenes.plainCycle(again);
        CHECK.due("the pen is put away between", Scenes.rows('f', "5"), Scenes.layerOf(again, 0));
        CHECK.due("its control too", Scenes.rows('4', "6"), Scenes.layerOf(again, 1));
        shownAnew();
    }
}
