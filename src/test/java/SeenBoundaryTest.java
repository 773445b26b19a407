/** The boundary cases of promise 13, seen: a test of its own for each sentence. */
public final class SeenBoundaryTest {
    private static final Check CHECK = new Check();

    public static void main(String[] args) {
        noSuchCell();
        coveredColumns();
        coveredRows();
        asFarAsInTheScreen();
        depthOfItsControl();
        depthOfTheNextBelow();
        noneBelow();
        notBelowTheDepth();
        greatestPriority();
        lowestPlace();
        greatestNumber();
        onlyShownOnes();
        theColour();
        CHECK.end();
    }

    private static SceneCycle walking(int... instructions) {
        return Scenes.played(Scenes.NO_PICTURE, instructions);
    }

    private static void noSuchCell() {
        CHECK.sentence("-1 when there is no such cell");
        SceneCycle scene = walking(11, 0, 4, 4, 9, 0, 0, 0, 11, 3, 4, 4, 9, 3, 12, 11);
        for (int x = 0; x <= 15; x++) {
            CHECK.due("above column " + x, -1, scene.seen(x, -1));
            CHECK.due("below column " + x, -1, scene.seen(x, 12));
        }
        for (int y = 0; y <= 11; y++) {
            CHECK.due("left of row " + y, -1, scene.seen(-1, y));
            CHECK.due("right of row " + y, -1, scene.seen(16, y));
        }
        for (int far : Scenes.FAR) {
            CHECK.due("column " + far, -1, scene.seen(far, 0));
            CHECK.due("row " + far, -1, scene.seen(0, far));
        }
        CHECK.due("the first cell", 16, scene.seen(0, 0));
        CHECK.due("the last cell", 19, scene.seen(15, 11));
        CHECK.due("the other corners", 15, scene.seen(15, 0));
        CHECK.due("the other corners", 15, scene.seen(0, 11));
    }

    private static void coveredColumns() {
        CHECK.sentence("An object covers the columns of its base");
        for (int width = 1; width <= 4; width++) {
            SceneCycle scene = walking(11, 2, width, 1, 9, 2, 5, 7);
            for (int x = 3; x <= 10; x++) {
                CHECK.due("width " + width + ", column " + x, x >= 5 && x < 5 + width ? 18 : 15, scene.seen(x, 7));
            }
        }
    }

    private static void coveredRows() {
        CHECK.sentence("and its height of rows, the lowest of them row y");
        for (int height = 1; height <= 4; height++) {
            SceneCycle scene = walking(11, 2, 1, height, 9, 2, 5, 7);
            for (int y = 2; y <= 9; y++) {
                CHECK.due("height " + height + ", row " + y, y <= 7 && y > 7 - height ? 18 : 15, scene.seen(5, y));
            }
        }
    }

    private static void asFarAsInTheScreen() {
        CHECK.sentence("(as far as they are in the screen)");
        for (int y = 0; y <= 4; y++) {
            SceneCycle scene = walking(11, 2, 4, 4, 9, 2, 12, y);
            for (int row = -1; row <= 5; row++) {
                int due = row < 0 ? -1 : row <= y && row > y - 4 ? 18 : 15;
                CHECK.due("at row " + y + ", row " + row, due, scene.seen(15, row));
            }
            CHECK.due("not in the lowest row", 15, scene.seen(15, 11));
        }
    }

    /** Object 1 of that rank stands at (5, 7), before a cell of that control and the colour 6. */
    private static int before(int control, int rank) {
        int[] picture = {240, 6, 242, control, 244, 5, 7, 255};
        return Scenes.played(picture, 18, 9, 1, 5, 7, 16, 1, rank).seen(5, 7);
    }

    private static void depthOfItsControl() {
        CHECK.sentence("The cell's DEPTH is its control, if that is 4 or more");
        for (int control = 4; control <= 15; control++) {
            for (int rank = 4; rank <= 15; rank++) {
                CHECK.due("control " + control + ", rank " + rank, rank >= control ? 17 : 6, before(control, rank));
            }
        }
    }

    private static void depthOfTheNextBelow() {
        CHECK.sentence("otherwise that of the next cell below it in the column whose control is 4 or more");
        for (int control = 0; control <= 4; control++) {
            int[] picture = {240, 6, 242, control, 244, 5, 7, 242, 9, 244, 5, 8, 255};
            SceneCycle low = Scenes.played(picture, 18, 9, 1, 5, 7, 16, 1, 8);
            CHECK.due("control " + control + " above 9, rank 8", control < 4 ? 6 : 17, low.seen(5, 7));
            SceneCycle high = Scenes.played(picture, 18, 9, 1, 5, 7, 16, 1, 9);
            CHECK.due("control " + control + " above 9, rank 9", 17, high.seen(5, 7));
        }
        int[] gap = {240, 6, 242, 3, 244, 5, 7, 5, 10, 242, 9, 244, 5, 11, 242, 12, 244, 5, 6, 255};
        CHECK.due("far below, in the lowest row", 6, Scenes.played(gap, 18, 9, 1, 5, 7, 16, 1, 8).seen(5, 7));
        CHECK.due("not the one above", 17, Scenes.played(gap, 18, 9, 1, 5, 7, 16, 1, 9).seen(5, 7));
        int[] beside = {240, 6, 242, 3, 244, 5, 7, 242, 9, 244, 6, 7, 6, 11, 244, 4, 7, 4, 11, 255};
        CHECK.due("not one beside it", 17, Scenes.played(beside, 18, 9, 1, 5, 7, 16, 1, 4).seen(5, 7));
        int[] first = {240, 6, 242, 3, 244, 5, 7, 242, 5, 244, 5, 8, 242, 9, 244, 5, 9, 255};
        CHECK.due("the next one, not a later one", 17, Scenes.played(first, 18, 9, 1, 5, 7, 16, 1, 5).seen(5, 7));
        CHECK.due("the next one, rank below", 6, Scenes.played(first, 18, 9, 1, 5, 7, 16, 1, 4).seen(5, 7));
    }

    private static void noneBelow() {
        CHECK.sentence("4 when there is none");
        for (int control = 0; control <= 3; control++) {
            int[] picture = {240, 6, 242, control, 244, 5, 7, 5, 11, 255};
            SceneCycle scene = Scenes.played(picture, 18, 9, 1, 5, 7, 16, 1, 4);
            CHECK.due("control " + control + " down to the lowest row", 17, scene.seen(5, 7));
            SceneCycle lowest = Scenes.played(picture, 18, 9, 1, 5, 11, 16, 1, 4);
            CHECK.due("in the lowest row", 17, lowest.seen(5, 11));
        }
    }

    private static void notBelowTheDepth() {
        CHECK.sentence("Of the shown objects that cover the cell and whose priority is not below the depth");
        int[] priorities = {4, 4, 5, 6, 6, 7, 8, 8, 9, 10, 10, 11};
        for (int y = 0; y <= 11; y++) {
            for (int control = 4; control <= 12; control++) {
                int[] picture = {240, 6, 242, control, 244, 5, y, 255};
                SceneCycle scene = Scenes.played(picture, 18, 9, 3, 5, y);
                CHECK.due("row " + y + ", control " + control, priorities[y] >= control ? 19 : 6, scene.seen(5, y));
            }
        }
        int[] post = {240, 6, 242, 10, 244, 5, 6, 255};
        SceneCycle tall = Scenes.played(post, 18, 11, 3, 1, 4, 9, 3, 5, 7);
        CHECK.due("before it in its own row", 19, tall.seen(5, 7));
        CHECK.due("behind it one row up", 6, tall.seen(5, 6));
        CHECK.due("and seen above it", 19, tall.seen(5, 5));
        SceneCycle two = Scenes.played(post, 18, 9, 0, 5, 6, 16, 0, 10, 9, 1, 5, 6, 16, 1, 9);
        CHECK.due("only the one that is not below it", 16, two.seen(5, 6));
    }

    private static int front(int... instructions) {
        return walking(instructions).seen(5, 7);
    }

    private static void greatestPriority() {
        CHECK.sentence("the one of the greatest priority is seen");
        for (int o = 0; o <= 3; o++) {
            for (int other = 0; other <= 3; other++) {
                if (other != o) {
                    CHECK.due("rank 10 before 9", 16 + o,
                            front(9, o, 5, 7, 16, o, 10, 9, other, 5, 7, 16, other, 9));
                    CHECK.due("rank 9 of a lower place behind 10", 16 + o,
                            front(9, o, 5, 7, 16, o, 10, 11, other, 1, 4, 9, other, 5, 10, 16, other, 9));
                    CHECK.due("by their rows", 16 + o,
                            front(11, o, 1, 3, 9, o, 5, 9, 9, other, 5, 7));
                }
            }
        }
    }

    private static void lowestPlace() {
        CHECK.sentence("of these the one of the lowest place on the screen (the greatest y)");
        for (int o = 0; o <= 3; o++) {
            for (int other = 0; other <= 3; other++) {
                if (other != o) {
                    CHECK.due("one row lower", 16 + o,
                            front(11, o, 1, 2, 9, o, 5, 8, 16, o, 9, 9, other, 5, 7, 16, other, 9));
                    CHECK.due("rank 11 one row up behind 11 by its row", 16 + o,
                            walking(11, o, 1, 2, 9, o, 5, 11, 9, other, 5, 10, 16, other, 11).seen(5, 10));
                }
            }
        }
        CHECK.due("rows 6 and 7 have one priority", 17,
                walking(11, 1, 1, 2, 9, 1, 5, 7, 9, 3, 5, 6).seen(5, 6));
    }

    private static void greatestNumber() {
        CHECK.sentence("of these the one of the greatest number: 16 + o");
        CHECK.due("all four", 19, front(9, 3, 5, 7, 9, 2, 5, 7, 9, 1, 5, 7, 9, 0, 5, 7));
        CHECK.due("three", 18, front(9, 0, 5, 7, 9, 1, 5, 7, 9, 2, 5, 7));
        CHECK.due("two", 17, front(9, 1, 5, 7, 9, 0, 5, 7));
        CHECK.due("one", 16, front(9, 0, 5, 7));
        CHECK.due("the columns do not count", 17,
                front(11, 0, 4, 1, 9, 0, 5, 7, 11, 1, 4, 1, 9, 1, 2, 7));
    }

    private static void onlyShownOnes() {
        CHECK.sentence("Of the shown objects");
        SceneCycle fresh = new SceneCycle(50);
        CHECK.due("at (0, 0), none is shown at first", 15, fresh.seen(0, 0));
        CHECK.due("not shown any more", 15, front(16, 0, 15, 9, 0, 5, 7, 10, 0));
        CHECK.due("another one behind it", 17, front(16, 0, 15, 9, 0, 5, 7, 9, 1, 5, 7, 10, 0));
    }

    private static void theColour() {
        CHECK.sentence("When there is none, the cell's colour");
        for (int colour = 0; colour <= 15; colour++) {
            int[] picture = {240, colour, 244, 5, 7, 255};
            SceneCycle scene = Scenes.played(picture, 18, 9, 0, 6, 7);
            CHECK.due("beside an object", colour, scene.seen(5, 7));
            CHECK.due("the object", 16, scene.seen(6, 7));
        }
    }
}
