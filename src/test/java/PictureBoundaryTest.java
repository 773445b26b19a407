import java.util.Arrays;

/** The boundary cases of PICTURE: a test of its own for each sentence. */
public final class PictureBoundaryTest {
    private static final Check CHECK = new Check();

    public static void main(String[] args) {
        endIsTheLastByte();
        penNumbers();
        pensWithoutNumbers();
        firstPoints();
        furtherPoints();
        firstPointAlone();
        stepsBelow240();
        stepsToTheLeftAndUp();
        stepsOfBoth();
        stepsOutOfTheScreen();
        onlyACommandMayStand();
        severalFills();
        lineOfOnePoint();
        greaterDistance();
        quotientsRoundedDown();
        longestLines();
        penOfNothing();
        colourFillPen();
        colourFillCell();
        connectedCells();
        noWayRoundTheScreen();
        controlFillPen();
        controlFillCell();
        shownAsAtFirst();
        shownWithoutAPicture();
        CHECK.end();
    }

    private static void due(int answer, int... picture) {
        CHECK.due("load of " + Arrays.toString(picture), answer, Scenes.loadAnswer(0, picture));
    }

    private static void colours(String what, String due, int... picture) {
        CHECK.due(what, due, Scenes.shown(0, picture));
    }

    private static void controls(String what, String due, int... picture) {
        CHECK.due(what, due, Scenes.shown(1, picture));
    }

    private static void endIsTheLastByte() {
        CHECK.sentence("then a byte 255, which must be the last one (a byte behind it is at fault)");
        due(-2);
        due(0, 255);
        due(-3, 255, 0);
        due(-3, 255, 240);
        due(-3, 255, 255);
        due(-3, 241);
        due(1, 241, 255);
        due(-4, 241, 255, 241);
        due(-4, 241, 255, 241, 255);
        due(63, Scenes.join(Scenes.repeat(63, 241), Scenes.bytes(255)));
        due(-66, Scenes.repeat(64, 241));
        due(-65, Scenes.join(Scenes.repeat(62, 241), Scenes.bytes(255, 255)));
    }

    private static void penNumbers() {
        CHECK.sentence("c, p are 0 .. 15");
        for (int command = 240; command <= 242; command += 2) {
            due(1, command, 0, 255);
            due(1, command, 15, 255);
            due(-3, command, 16, 255);
            due(-3, command, 239, 255);
            due(-3, command, 240, 255);
            due(-3, command, 255);
            due(-3, command, 255, 255);
            due(-3, command);
        }
    }

    private static void pensWithoutNumbers() {
        CHECK.sentence("241: it has none");
        for (int command = 241; command <= 243; command += 2) {
            due(1, command, 255);
            due(2, command, command, 255);
            due(-3, command, 0, 255);
            due(-3, command, 15, 255);
        }
        colours("no colour any more", Scenes.rows('f', "3f"),
                240, 3, 244, 0, 0, 241, 244, 1, 0, 255);
        controls("no control any more", Scenes.rows('4', "34"),
                242, 3, 244, 0, 0, 243, 244, 1, 0, 255);
    }

    private static void firstPoints() {
        CHECK.sentence("x y are a column and a row");
        for (int command = 244; command <= 246; command++) {
            due(1, command, 0, 0, 255);
            due(1, command, 15, 11, 255);
            due(-3, command, 16, 11, 255);
            due(-4, command, 15, 12, 255);
            due(-4, command, 0, 15, 255);
            due(-3, command);
            due(-3, command, 255);
            due(-3, command, 240, 0, 255);
            due(-4, command, 15);
            due(-4, command, 15, 255);
            due(-4, command, 15, 240, 255);
        }
    }

    private static void furtherPoints() {
        CHECK.sentence("and then any number of x y");
        for (int command = 244; command <= 246; command += 2) {
            due(1, command, 0, 0, 15, 11, 255);
            due(-5, command, 0, 0, 16, 11, 255);
            due(-6, command, 0, 0, 15, 12, 255);
            due(-6, command, 0, 0, 15, 255);
            due(-6, command, 0, 0, 15, 241, 255);
            due(-6, command, 0, 0, 15);
            due(2, command, 0, 0, command, 15, 11, 255);
            due(1, Scenes.join(Scenes.bytes(command), Scenes.repeat(31, 15, 11), Scenes.bytes(255)));
            due(-65, Scenes.join(Scenes.bytes(command), Scenes.repeat(31, 15, 11), Scenes.bytes(16)));
            due(-66, Scenes.join(Scenes.bytes(command), Scenes.repeat(31, 15, 11), Scenes.bytes(15)));
        }
        int[] zigzag = new int[64];
        zigzag[0] = 240;
        zigzag[1] = 7;
        zigzag[2] = 244;
        for (int i = 0; i < 30; i++) {
            zigzag[3 + 2 * i] = i % 4 == 1 || i % 4 == 2 ? 1 : 0;
            zigzag[4 + 2 * i] = i * 11 / 29;
        }
        zigzag[63] = 255;
        SceneCycle scene = Scenes.played(zigzag, 18);
        CHECK.due("the first of thirty points", 7, scene.cell(0, 0, 0));
        CHECK.due("the last of thirty points", 7, scene.cell(zigzag[61], 11, 0));
    }

    private static void firstPointAlone() {
        CHECK.sentence("(the first point alone, if it is the only one)");
        colours("of 244", Scenes.rows('f', "f", "ff9"), 240, 9, 244, 2, 1, 255);
        colours("of 245", Scenes.rows('f', "f", "ff9"), 240, 9, 245, 2, 1, 255);
        colours("in the first corner", Scenes.rows('f', "9"), 240, 9, 244, 0, 0, 255);
        colours("not joined with the command before", Scenes.rows('f', "9ff9", "f", "f9"),
                240, 9, 244, 0, 0, 244, 3, 0, 245, 1, 2, 255);
        colours("two points", Scenes.rows('f', "9999"), 240, 9, 244, 0, 0, 3, 0, 255);
    }

    private static void stepsBelow240() {
        CHECK.sentence("s is below 240");
        due(1, 245, 6, 7, 239, 255);
        colours("the step 239 leads six to the left and seven up",
                Scenes.rows('f', "9", "f9", "ff9", "fff9", "fff9", "ffff9", "fffff9", "ffffff9"),
                240, 9, 245, 6, 7, 239, 255);
        due(2, 245, 6, 7, 240, 5, 255);
        due(2, 245, 6, 7, 246, 0, 0, 255);
        due(-5, 245, 6, 7, 247, 255);
        due(-5, 245, 6, 7, 254, 255);
        due(1, 245, 6, 7, 255);
        due(1, 245, 6, 7, 0, 255);
        due(1, Scenes.join(Scenes.bytes(245, 6, 7), Scenes.repeat(60, 0), Scenes.bytes(255)));
    }

    private static void stepsToTheLeftAndUp() {
        CHECK.sentence("the move to the right, but 8 less that (to the left) when it is above 8");
        colours("8 * 16 leads eight to the right", Scenes.rows('f', "999999999"),
                240, 9, 245, 0, 0, 0x80, 255);
        colours("9 * 16 leads one to the left", Scenes.rows('f', "fffffff99"),
                240, 9, 245, 8, 0, 0x90, 255);
        colours("14 * 16 leads six to the left", Scenes.rows('f', "ff9999999"),
                240, 9, 245, 8, 0, 0xe0, 255);
        colours("0 * 16 leads nowhere", Scenes.rows('f', "ffffffff9"), 240, 9, 245, 8, 0, 0, 255);
        CHECK.sentence("and s % 16 likewise downwards");
        colours("8 leads eight down",
                Scenes.rows('f', "9", "9", "9", "9", "9", "9", "9", "9", "9"),
                240, 9, 245, 0, 0, 0x08, 255);
        colours("9 leads one up", Scenes.rows('f', "f", "f", "f", "f", "f", "f", "f", "9", "9"),
                240, 9, 245, 0, 8, 0x09, 255);
        colours("15 leads seven up",
                Scenes.rows('f', "f", "9", "9", "9", "9", "9", "9", "9", "9"),
                240, 9, 245, 0, 8, 0x0f, 255);
    }

    private static void stepsOfBoth() {
        CHECK.sentence("s / 16 (the remainder left out) is the move to the right");
        int[][] cases = {{0x88, 15, 11}, {0x89, 15, 2}, {0x98, 6, 11}, {0x99, 6, 2}, {0x0f, 7, 0}, {0xe8, 1, 11}};
        for (int[] c : cases) {
            int row = c[0] == 0x0f ? 7 : 3;
            SceneCycle scene = Scenes.played(Scenes.bytes(240, 9, 245, 7, row, c[0], 255), 18);
            CHECK.due("its end, by " + c[0], 9, scene.cell(c[1], c[2], 0));
        }
    }

    private static void stepsOutOfTheScreen() {
        CHECK.sentence("a step that leads out of the screen is at fault");
        for (int move = 1; move <= 8; move++) {
            due(1, 245, 15 - move, 0, move * 16, 255);
            due(-5, 245, 16 - move, 0, move * 16, 255);
            due(1, 245, 0, 11 - move, move, 255);
            due(-5, 245, 0, 12 - move, move, 255);
        }
        for (int move = 1; move <= 7; move++) {
            if (move <= 6) {
                due(1, 245, move, 0, (8 + move) * 16, 255);
                due(-5, 245, move - 1, 0, (8 + move) * 16, 255);
            }
            due(1, 245, 0, move, 8 + move, 255);
            due(-5, 245, 0, move - 1, 8 + move, 255);
        }
        due(1, 245, 0, 0, 0x80, 0x70, 255);
        due(-6, 245, 0, 0, 0x80, 0x80, 255);
        due(-5, 245, 15, 11, 0x11, 255);
        due(-5, 245, 15, 11, 0x10);
        due(1, 245, 15, 11, 0x99, 255);
        due(-5, 245, 0, 0, 0x99, 255);
    }

    private static void onlyACommandMayStand() {
        CHECK.sentence("A byte below 240 where only a command may stand, or above 246 and not 255, is at fault");
        int[][] heads = {{}, {241}, {243}, {240, 15}, {242, 0}};
        for (int[] head : heads) {
            int count = head.length == 0 ? 0 : 1;
            int fault = -2 - head.length;
            due(fault, Scenes.join(head, Scenes.bytes(0, 255)));
            due(fault, Scenes.join(head, Scenes.bytes(239, 255)));
            due(count + 1, Scenes.join(head, Scenes.bytes(240, 0, 255)));
            due(count + 1, Scenes.join(head, Scenes.bytes(246, 0, 0, 255)));
            due(fault, Scenes.join(head, Scenes.bytes(247, 255)));
            due(fault, Scenes.join(head, Scenes.bytes(254, 255)));
            due(count, Scenes.join(head, Scenes.bytes(255)));
        }
        for (int command = 244; command <= 246; command++) {
            due(-5, command, 0, 0, 247, 255);
            due(-5, command, 0, 0, 254, 255);
        }
        due(-5, 244, 0, 0, 239, 255);
        due(-5, 246, 0, 0, 239, 255);
    }

    private static void severalFills() {
        CHECK.sentence("246 x y and then any number of x y: a FILL at each of these points");
        int[] walls = {240, 2, 244, 0, 1, 15, 1, 244, 1, 0, 244, 3, 0, 244, 6, 0, 240, 5};
        String[] first = {"52f2ff2fffffffff", "2222222222222222"};
        colours("one point", Scenes.rows('f', first), Scenes.join(walls, Scenes.bytes(246, 0, 0, 255)));
        String[] three = {"5252ff2555555555", "2222222222222222"};
        colours("three points, and one where nothing is done", Scenes.rows('f', three),
                Scenes.join(walls, Scenes.bytes(246, 0, 0, 1, 0, 2, 0, 15, 0, 255)));
    }

    private static void greaterDistance() {
        CHECK.sentence("with n the greater one of |c - a| and |d - b|");
        colours("as many rows as columns", Scenes.rows('f', "f", "f", "f", "ffff9", "fffff9", "ffffff9"),
                240, 9, 244, 4, 3, 6, 5, 255);
        colours("as many, upwards", Scenes.rows('f', "f", "f", "f", "ffffff9", "fffff9", "ffff9"),
                240, 9, 244, 4, 5, 6, 3, 255);
        colours("one column more", Scenes.rows('f', "f", "f", "f", "ffff9", "fffff99", "fffffff9"),
                240, 9, 244, 4, 3, 7, 5, 255);
        colours("one row more", Scenes.rows('f', "f", "f", "f", "ffff9", "fffff9", "fffff9", "ffffff9"),
                240, 9, 244, 4, 3, 6, 6, 255);
        colours("no row", Scenes.rows('f', "f", "f", "f", "ffff9999"), 240, 9, 244, 7, 3, 4, 3, 255);
        colours("no column", Scenes.rows('f', "f", "f", "f", "ffff9", "ffff9", "ffff9"),
                240, 9, 244, 4, 5, 4, 3, 255);
    }

    private static void lineOfOnePoint() {
        CHECK.sentence("(for n = 0: the point (a, b))");
        colours("the same point twice", Scenes.rows('f', "f", "ff9"), 240, 9, 244, 2, 1, 2, 1, 255);
        colours("a step of 0", Scenes.rows('f', "f", "ff9"), 240, 9, 245, 2, 1, 0, 255);
        colours("and on from there", Scenes.rows('f', "f", "ff99"),
                240, 9, 244, 2, 1, 2, 1, 3, 1, 255);
        SceneCycle corner = Scenes.played(Scenes.bytes(240, 9, 244, 15, 11, 15, 11, 255), 18);
        CHECK.due("the last corner", 9, corner.cell(15, 11, 0));
    }

    private static void quotientsRoundedDown() {
        CHECK.sentence("both quotients rounded down");
        colours("half a row on", Scenes.rows('f', "9ff", "f99"), 240, 9, 244, 0, 0, 2, 1, 255);
        colours("half a row on, upwards", Scenes.rows('f', "ff9", "99f"), 240, 9, 244, 0, 1, 2, 0, 255);
        colours("half a row on, to the left", Scenes.rows('f', "9ff", "f99"), 240, 9, 244, 2, 1, 0, 0, 255);
        colours("half a row down, to the left", Scenes.rows('f', "ff9", "99f"), 240, 9, 244, 2, 0, 0, 1, 255);
        colours("half a column on", Scenes.rows('f', "9f", "f9", "f9"), 240, 9, 244, 0, 0, 1, 2, 255);
        colours("half a column to the left", Scenes.rows('f', "9f", "f9", "f9"), 240, 9, 244, 1, 2, 0, 0, 255);
        colours("quarters", Scenes.rows('f', "99fff", "ff999"), 240, 9, 244, 0, 0, 4, 1, 255);
        colours("quarters, back", Scenes.rows('f', "99fff", "ff999"), 240, 9, 244, 4, 1, 0, 0, 255);
        colours("three quarters", Scenes.rows('f', "9ffff", "f9fff", "ff99f", "ffff9"),
                240, 9, 244, 0, 0, 4, 3, 255);
        colours("three quarters, upwards", Scenes.rows('f', "ffff9", "fff9f", "f99ff", "9ffff"),
                240, 9, 244, 0, 3, 4, 0, 255);
    }

    private static void longestLines() {
        CHECK.sentence("the points k = 0 .. n");
        colours("the top row", Scenes.rows('f', "9999999999999999"), 240, 9, 244, 15, 0, 0, 0, 255);
        String[] column = new String[12];
        Arrays.fill(column, "fffffffffffffff9");
        colours("the last column", Scenes.rows('f', column), 240, 9, 244, 15, 0, 15, 11, 255);
        String[] down = {
            "9fffffffffffffff", "f99fffffffffffff", "fff9ffffffffffff", "ffff9fffffffffff",
            "fffff99fffffffff", "fffffff9ffffffff", "ffffffff9fffffff", "fffffffff99fffff",
            "fffffffffff9ffff", "ffffffffffff9fff", "fffffffffffff99f", "fffffffffffffff9"
        };
        colours("corner to corner", Scenes.rows('f', down), 240, 9, 244, 0, 0, 15, 11, 255);
        colours("corner to corner, back", Scenes.rows('f', down), 240, 9, 244, 15, 11, 0, 0, 255);
    }

    private static void penOfNothing() {
        CHECK.sentence("the pen's colour if it has one, and its control if it has one");
        int[] neither = {244, 0, 0, 15, 11, 246, 3, 0, 255};
        colours("neither", Scenes.rows('f'), neither);
        controls("neither", Scenes.rows('4'), neither);
        int[] colourAlone = {240, 0, 244, 0, 0, 255};
        colours("a colour 0", Scenes.rows('f', "0"), colourAlone);
        controls("no control", Scenes.rows('4'), colourAlone);
        int[] controlAlone = {242, 0, 244, 0, 0, 255};
        colours("no colour", Scenes.rows('f'), controlAlone);
        controls("a control 0", Scenes.rows('4', "0"), controlAlone);
        int[] both = {240, 15, 242, 15, 244, 0, 0, 255};
        controls("a control 15", Scenes.rows('4', "f"), both);
    }

    private static void colourFillPen() {
        CHECK.sentence("if the pen has a colour, and that is not 15, and the cell's colour is 15");
        for (int colour = 0; colour <= 14; colour++) {
            colours("colour " + colour, Scenes.rows(Character.forDigit(colour, 16)),
                    240, colour, 246, 9, 9, 255);
        }
        colours("colour 15", Scenes.rows('f'), 240, 15, 246, 9, 9, 255);
        controls("colour 15 with a control", Scenes.rows('4'), 240, 15, 242, 3, 246, 9, 9, 255);
        controls("colour 14 with a control", Scenes.rows('3'), 240, 14, 242, 3, 246, 9, 9, 255);
        controls("colour 14 with the control 4", Scenes.rows('4'), 240, 14, 242, 4, 246, 9, 9, 255);
        colours("colour 14 with the control 4", Scenes.rows('e'), 240, 14, 242, 4, 246, 9, 9, 255);
    }

    private static void colourFillCell() {
        CHECK.sentence("and the cell's colour is 15");
        colours("a cell of colour 14", Scenes.rows('f', "e"), 240, 14, 244, 0, 0, 240, 3, 246, 0, 0, 255);
        colours("a cell of colour 0", Scenes.rows('f', "0"), 240, 0, 244, 0, 0, 240, 3, 246, 0, 0, 255);
        colours("a cell of the pen's colour", Scenes.rows('f', "3"), 240, 3, 244, 0, 0, 246, 0, 0, 255);
        colours("a cell drawn with 15", Scenes.rows('3'),
                240, 14, 244, 0, 0, 240, 15, 244, 0, 0, 240, 3, 246, 0, 0, 255);
        colours("whatever its control is", Scenes.rows('3'), 242, 7, 244, 0, 0, 243, 240, 3, 246, 0, 0, 255);
    }

    private static void connectedCells() {
        CHECK.sentence("connected with it (by steps to the left, right, up, down over such cells), itself included");
        int[] cross = {240, 2, 244, 3, 2, 244, 2, 3, 244, 4, 3, 244, 3, 4, 240, 5};
        String[] ring = {"f", "f", "fff2", "ff2f2", "fff2"};
        String[] one = {"f", "f", "fff2", "ff252", "fff2"};
        colours("one cell alone", Scenes.rows('f', one), Scenes.join(cross, Scenes.bytes(246, 3, 3, 255)));
        String[] all = {"5", "5", "5552", "552f2", "5552"};
        colours("all but that one", Scenes.rows('5', all), Scenes.join(cross, Scenes.bytes(246, 2, 2, 255)));
        colours("none", Scenes.rows('f', ring), Scenes.join(cross, Scenes.bytes(246, 3, 2, 255)));
        int[][] ways = {{2, 3}, {4, 3}, {3, 2}, {3, 4}};
        for (int[] way : ways) {
            int[] door = {240, 15, 244, way[0], way[1], 240, 5, 246, 3, 3, 255};
            SceneCycle scene = Scenes.played(Scenes.join(cross, door), 18);
            CHECK.due("out by the way " + way[0] + ", " + way[1], 5, scene.cell(15, 11, 0));
        }
    }

    private static void noWayRoundTheScreen() {
        CHECK.sentence("all cells of colour 15 that are connected with it");
        String[] halves = new String[12];
        Arrays.fill(halves, "55555552ffffffff");
        colours("not beyond the first column", Scenes.rows('f', halves),
                240, 2, 244, 7, 0, 7, 11, 240, 5, 246, 0, 5, 255);
        Arrays.fill(halves, "fffffff255555555");
        colours("not beyond the last column", Scenes.rows('f', halves),
                240, 2, 244, 7, 0, 7, 11, 240, 5, 246, 15, 5, 255);
        Arrays.fill(halves, 0, 5, "5555555555555555");
        halves[5] = "2222222222222222";
        Arrays.fill(halves, 6, 12, "ffffffffffffffff");
        colours("not beyond the top row", Scenes.rows('f', halves),
                240, 2, 244, 0, 5, 15, 5, 240, 5, 246, 8, 0, 255);
        Arrays.fill(halves, 0, 5, "ffffffffffffffff");
        Arrays.fill(halves, 6, 12, "5555555555555555");
        colours("not beyond the lowest row", Scenes.rows('f', halves),
                240, 2, 244, 0, 5, 15, 5, 240, 5, 246, 8, 11, 255);
    }

    private static void controlFillPen() {
        CHECK.sentence("If the pen has no colour, but a control that is not 4, and the cell's control is 4");
        for (int control = 0; control <= 15; control++) {
            controls("control " + control, Scenes.rows(Character.forDigit(control, 16)),
                    242, control, 246, 9, 9, 255);
        }
        colours("the colours stay", Scenes.rows('f'), 242, 5, 246, 9, 9, 255);
        controls("no control", Scenes.rows('4'), 246, 9, 9, 255);
        controls("with the colour 15", Scenes.rows('4'), 240, 15, 242, 5, 246, 9, 9, 255);
        controls("no colour any more", Scenes.rows('5'), 240, 15, 241, 242, 5, 246, 9, 9, 255);
        controls("no control any more", Scenes.rows('4'), 242, 5, 243, 246, 9, 9, 255);
    }

    private static void controlFillCell() {
        CHECK.sentence("likewise with cells of control 4");
        controls("a cell of control 3", Scenes.rows('4', "3"), 242, 3, 244, 0, 0, 242, 9, 246, 0, 0, 255);
        controls("a cell of control 5", Scenes.rows('4', "5"), 242, 5, 244, 0, 0, 242, 9, 246, 0, 0, 255);
        controls("a cell drawn with 4", Scenes.rows('9'),
                242, 5, 244, 0, 0, 242, 4, 244, 0, 0, 242, 9, 246, 0, 0, 255);
        controls("whatever its colour is", Scenes.rows('9'),
                240, 2, 246, 0, 0, 241, 242, 9, 246, 0, 0, 255);
        String[] halves = new String[12];
        Arrays.fill(halves, "9999999344444444");
        controls("up to other controls", Scenes.rows('4', halves),
                242, 3, 244, 7, 0, 7, 11, 242, 9, 246, 0, 5, 255);
        Arrays.fill(halves, "4444444599999999");
        controls("up to other controls, from the right", Scenes.rows('4', halves),
                242, 5, 244, 7, 0, 7, 11, 242, 9, 246, 15, 5, 255);
        controls("not round a corner", Scenes.rows('4', "93", "3"),
                242, 3, 244, 1, 0, 0, 1, 242, 9, 246, 0, 0, 255);
    }

    /** What a second showing would leave, if the first one's cells were still there, is another picture. */
    private static void shownAsAtFirst() {
        CHECK.sentence("all cells have colour 15 and control 4, the pen has neither");
        String[] due = new String[12];
        Arrays.fill(due, "3332444444444444");
        due[5] = "3344444444444444";
        int[] controls = {
            242, 2, 244, 3, 0, 3, 11, 242, 3, 246, 0, 0, 242, 4, 244, 3, 5,
            242, 5, 246, 2, 5, 242, 4, 244, 2, 5, 255
        };
        showTwice(1, Scenes.rows('4', due), controls);
        Arrays.fill(due, "3332ffffffffffff");
        due[5] = "33ffffffffffffff";
        int[] colours = {
            240, 2, 244, 3, 0, 3, 11, 240, 3, 246, 0, 0, 240, 15, 244, 3, 5,
            240, 5, 246, 2, 5, 240, 15, 244, 2, 5, 255
        };
        showTwice(0, Scenes.rows('f', due), colours);
        int[] pen = {244, 1, 0, 246, 9, 9, 240, 5, 242, 6, 244, 0, 0, 255};
        showTwice(0, Scenes.rows('f', "5"), pen);
        showTwice(1, Scenes.rows('4', "6"), pen);
    }

    private static void showTwice(int layer, String due, int... picture) {
        SceneCycle scene = new SceneCycle(50);
        Scenes.addLoaded(scene, 0, picture);
        Scenes.addLoaded(scene, 1, 18);
        Scenes.plainCycle(scene);
        CHECK.due("shown once, layer " + layer, due, Scenes.layerOf(scene, layer));
        Scenes.plainCycle(scene);
        CHECK.due("shown twice, layer " + layer, due, Scenes.layerOf(scene, layer));
    }

    private static void shownWithoutAPicture() {
        CHECK.sentence("then, if the picture is loaded, its commands are done");
        SceneCycle scene = Scenes.withLogic(18);
        CHECK.due("an empty picture", 1, Scenes.plainCycle(scene));
        CHECK.due("colour", 15, scene.cell(0, 0, 0));
        Scenes.putAll(scene, 0, 240, 5, 242, 6, 244, 0, 0, 255);
        CHECK.due("one that is not loaded", 1, Scenes.plainCycle(scene));
        CHECK.due("colour", 15, scene.cell(0, 0, 0));
        CHECK.due("control", 4, scene.cell(0, 0, 1));
        CHECK.due("load", 3, scene.load(0));
        CHECK.due("loaded, but not shown", 15, scene.cell(0, 0, 0));
        Scenes.plainCycle(scene);
        CHECK.due("shown", 5, scene.cell(0, 0, 0));
        CHECK.due("shown", 6, scene.cell(0, 0, 1));
        SceneCycle noCommands = Scenes.played(Scenes.bytes(255), 18);
        CHECK.due("a picture without commands", 15, noCommands.cell(0, 0, 0));
    }
}
