/** The boundary cases of SCREEN and of promise 12, cell: a test of its own for each sentence. */
public final class ScreenBoundaryTest {
    private static final Check CHECK = new Check();

    public static void main(String[] args) {
        columnsAndRows();
        coloursAndControls();
        blankAtFirst();
        noSuchCell();
        noSuchLayer();
        withoutObjects();
        CHECK.end();
    }

    private static SceneCycle showing(int... picture) {
        return Scenes.played(picture, 18);
    }

    private static void columnsAndRows() {
        CHECK.sentence("16 columns x (0 .. 15) and 12 rows y (0 the top one, 11 the lowest)");
        SceneCycle scene = showing(240, 1, 244, 0, 0, 240, 2, 244, 15, 0, 240, 3, 244, 0, 11,
                240, 4, 244, 15, 11, 255);
        CHECK.due("the first column of the top row", 1, scene.cell(0, 0, 0));
        CHECK.due("the last column of the top row", 2, scene.cell(15, 0, 0));
        CHECK.due("the first column of the lowest row", 3, scene.cell(0, 11, 0));
        CHECK.due("the last column of the lowest row", 4, scene.cell(15, 11, 0));
        CHECK.due("beside the corner", 15, scene.cell(1, 0, 0));
        CHECK.due("below the corner", 15, scene.cell(0, 1, 0));
        SceneCycle down = Scenes.played(Scenes.NO_PICTURE, 9, 0, 5, 10, 12, 0, 5);
        CHECK.due("down to the lowest row", 11, down.object(0, Scenes.Y));
        SceneCycle up = Scenes.played(Scenes.NO_PICTURE, 9, 0, 5, 10, 12, 0, 1);
        CHECK.due("up is towards the top one", 9, up.object(0, Scenes.Y));
    }

    private static void coloursAndControls() {
        CHECK.sentence("Each cell has a COLOUR 0 .. 15 and a CONTROL 0 .. 15");
        for (int number = 0; number <= 15; number++) {
            SceneCycle scene = showing(240, number, 242, 15 - number, 244, 7, 5, 255);
            CHECK.due("colour " + number, number, scene.cell(7, 5, 0));
            CHECK.due("control " + (15 - number), 15 - number, scene.cell(7, 5, 1));
        }
        CHECK.due("colour 16", -3, Scenes.loadAnswer(0, 240, 16, 255));
        CHECK.due("control 16", -3, Scenes.loadAnswer(0, 242, 16, 255));
    }

    private static void blankAtFirst() {
        CHECK.sentence("at first 15 and 4");
        SceneCycle scene = new SceneCycle(50);
        CHECK.due("colours", Scenes.rows('f'), Scenes.layerOf(scene, 0));
        CHECK.due("controls", Scenes.rows('4'), Scenes.layerOf(scene, 1));
    }

    private static void noSuchCell() {
        CHECK.sentence("-1 when there is no such cell");
        SceneCycle scene = showing(240, 0, 242, 0, 246, 0, 0, 255);
        for (int layer = 0; layer <= 1; layer++) {
            for (int x = 0; x <= 15; x++) {
                CHECK.due("above column " + x, -1, scene.cell(x, -1, layer));
                CHECK.due("in column " + x, 0, scene.cell(x, 0, layer));
                CHECK.due("in column " + x, 0, scene.cell(x, 11, layer));
                CHECK.due("below column " + x, -1, scene.cell(x, 12, layer));
            }
            for (int y = 0; y <= 11; y++) {
                CHECK.due("left of row " + y, -1, scene.cell(-1, y, layer));
                CHECK.due("in row " + y, 0, scene.cell(0, y, layer));
                CHECK.due("in row " + y, 0, scene.cell(15, y, layer));
                CHECK.due("right of row " + y, -1, scene.cell(16, y, layer));
            }
            for (int far : Scenes.FAR) {
                CHECK.due("column " + far, -1, scene.cell(far, 5, layer));
                CHECK.due("row " + far, -1, scene.cell(5, far, layer));
                CHECK.due("both " + far, -1, scene.cell(far, far, layer));
            }
        }
    }

    private static void noSuchLayer() {
        CHECK.sentence("0 its colour, 1 its control; -1 when there is no such cell, or for any other layer");
        SceneCycle scene = new SceneCycle(50);
        CHECK.due("layer -1", -1, scene.cell(3, 3, -1));
        CHECK.due("layer 0", 15, scene.cell(3, 3, 0));
        CHECK.due("layer 1", 4, scene.cell(3, 3, 1));
        CHECK.due("layer 2", -1, scene.cell(3, 3, 2));
        for (int far : Scenes.FAR) {
            CHECK.due("layer " + far, -1, scene.cell(3, 3, far));
        }
        CHECK.due("neither cell nor layer", -1, scene.cell(16, 12, 2));
    }

    private static void withoutObjects() {
        CHECK.sentence("Of a cell, without objects");
        SceneCycle scene = Scenes.played(Scenes.NO_PICTURE, 16, 3, 15, 9, 3, 15, 11);
        CHECK.due("the object is seen", 19, scene.seen(15, 11));
        CHECK.due("the cell's colour", 15, scene.cell(15, 11, 0));
        CHECK.due("the cell's control", 4, scene.cell(15, 11, 1));
    }
}
