/** The boundary cases of MOTION: a test of its own for each sentence. */
public final class MotionBoundaryTest {
    private static final Check CHECK = new Check();
    private static final int[] STEP_RIGHT = {0, 0, 1, 1, 1, 0, -1, -1, -1};
    private static final int[] STEP_DOWN = {0, -1, -1, 0, 1, 1, 1, 0, -1};

    public static void main(String[] args) {
        variableZero();
        onlyShownObjects();
        oneAfterTheOther();
        arrivesAtItsGoal();
        towardsTheGoal();
        goalsOutOfReach();
        followingNobody();
        arrivesNearTheFirst();
        towardsTheFirst();
        nearAfterItsStep();
        luckWrapsAround();
        wanderersLatestMotion();
        arriving();
        directionZero();
        oneOn();
        leftEdge();
        rightEdge();
        lowestEdge();
        topEdge();
        firstEdgeThatHolds();
        edgeBeforeBlock();
        edgeOfAnother();
        priorityFifteen();
        barrierControls();
        barrierUnderTheBase();
        anotherBase();
        anotherThatIsNotShown();
        stoppedDirection();
        allCellsThree();
        someCellTwo();
        groundAfterTheStep();
        groundWithoutTheFirst();
        CHECK.end();
    }

    private static SceneCycle walking(int... instructions) {
        return Scenes.played(Scenes.NO_PICTURE, instructions);
    }

    private static void due(String what, String place, int direction, SceneCycle scene, int o) {
        CHECK.due(what + ": place", place, Scenes.place(scene, o));
        CHECK.due(what + ": direction", direction, scene.object(o, Scenes.DIRECTION));
    }

    private static void variableZero() {
        CHECK.sentence("MOTION: variable 0 becomes 0");
        SceneCycle scene = new SceneCycle(50);
        scene.give(0, 255);
        scene.give(1, 255);
        Scenes.plainCycle(scene);
        CHECK.due("variable 0, without an object", 0, scene.variable(0));
        CHECK.due("variable 1", 255, scene.variable(1));
        SceneCycle logic = Scenes.withLogic(3, 1, 0, 1, 0, 255);
        logic.give(0, 9);
        Scenes.plainCycle(logic);
        CHECK.due("after the logic", 0, logic.variable(0));
        CHECK.due("the logic found it as it was", 9, logic.variable(1));
    }

    private static void onlyShownObjects() {
        CHECK.sentence("then the shown objects one after the other, 0 first");
        for (int o = 0; o <= 3; o++) {
            due("shown", "6,6", 3, walking(9, o, 5, 6, 12, o, 3), o);
            due("not shown", "5,6", 3, walking(9, o, 5, 6, 12, o, 3, 10, o), o);
            SceneCycle going = walking(13, o, 0, 0, 9);
            CHECK.due("not shown, at its goal", 1, going.object(o, Scenes.MODE));
            CHECK.due("not shown, its flag", false, going.flag(9));
        }
    }

    private static void oneAfterTheOther() {
        CHECK.sentence("then the shown objects one after the other, 0 first");
        SceneCycle train = walking(9, 0, 8, 6, 12, 0, 3, 9, 1, 7, 6, 12, 1, 3, 9, 2, 6, 6, 12, 2, 3, 9, 3, 5, 6, 12, 3, 3);
        for (int o = 0; o <= 3; o++) {
            due("each makes room for the next", (9 - o) + ",6", 3, train, o);
        }
        SceneCycle jam = walking(9, 3, 8, 6, 12, 3, 3, 9, 2, 7, 6, 12, 2, 3, 9, 1, 6, 6, 12, 1, 3, 9, 0, 5, 6, 12, 0, 3);
        for (int o = 0; o <= 2; o++) {
            due("the next is still there", (5 + o) + ",6", 0, jam, o);
        }
        due("the last one has room", "9,6", 3, jam, 3);
    }

    private static void arrivesAtItsGoal() {
        CHECK.sentence("Going: at its goal (x and y the same) it ARRIVES");
        int[][] goals = {{5, 6}, {4, 6}, {6, 6}, {5, 5}, {5, 7}, {6, 7}};
        for (int[] goal : goals) {
            for (int o = 0; o <= 3; o++) {
                SceneCycle scene = walking(9, o, 5, 6, 13, o, goal[0], goal[1], 9);
                String what = "goal " + goal[0] + "," + goal[1] + " of " + o;
                boolean there = goal[0] == 5 && goal[1] == 6;
                CHECK.due(what + ": flag", there, scene.flag(9));
                CHECK.due(what + ": mode", there ? 0 : 1, scene.object(o, Scenes.MODE));
                CHECK.due(what + ": place", goal[0] + "," + goal[1], Scenes.place(scene, o));
            }
        }
        int[][] corners = {{0, 3}, {15, 3}, {0, 11}, {15, 11}};
        for (int[] corner : corners) {
            SceneCycle scene = walking(9, 1, corner[0], corner[1], 13, 1, corner[0], corner[1], 9);
            CHECK.due("in a corner", true, scene.flag(9));
            CHECK.due("free", 0, scene.object(1, Scenes.MODE));
        }
        SceneCycle above = walking(9, 1, 15, 0, 13, 1, 15, 0, 9);
        CHECK.due("above row 3", true, above.flag(9));
        SceneCycle wide = walking(11, 1, 4, 4, 9, 1, 12, 11, 13, 1, 12, 11, 9);
        CHECK.due("a wide one by its own place", true, wide.flag(9));
    }

    private static void towardsTheGoal() {
        CHECK.sentence("to the left or right if the goal's column is less or greater, up or down likewise, or both");
        for (int d = 1; d <= 8; d++) {
            for (int far = 1; far <= 2; far++) {
                int x = 7 + far * STEP_RIGHT[d];
                int y = 7 + far * STEP_DOWN[d];
                due("goal " + far + " by " + d, (7 + STEP_RIGHT[d]) + "," + (7 + STEP_DOWN[d]), d,
                        walking(9, 1, 7, 7, 13, 1, x, y, 9), 1);
            }
        }
        due("one column, many rows", "8,6", 2, walking(9, 1, 7, 7, 13, 1, 8, 3, 9), 1);
        due("many columns, one row", "6,8", 6, walking(9, 1, 7, 7, 13, 1, 0, 8, 9), 1);
    }

    private static void goalsOutOfReach() {
        CHECK.sentence("else the direction is the one towards the goal");
        SceneCycle wide = walking(11, 0, 2, 1, 9, 0, 13, 6, 13, 0, 15, 6, 9);
        due("a wide one moves up to the edge", "14,6", 3, wide, 0);
        Scenes.plainCycle(wide);
        due("and touches it", "14,6", 0, wide, 0);
        CHECK.due("edge", 2, wide.variable(0));
        CHECK.due("still going", 1, wide.object(0, Scenes.MODE));
        Scenes.plainCycle(wide);
        CHECK.due("and again", 2, wide.variable(0));
        CHECK.due("it never arrives", false, wide.flag(9));
    }

    private static void followingNobody() {
        CHECK.sentence("Following: its direction is 0 when object 0 is not shown");
        for (int o = 1; o <= 3; o++) {
            SceneCycle never = walking(9, o, 2, 5, 12, o, 3, 14, o, 9);
            due("never shown", "2,5", 0, never, o);
            CHECK.due("still following", 2, never.object(o, Scenes.MODE));
            SceneCycle far = walking(9, 0, 5, 6, 9, o, 9, 6, 12, o, 3, 14, o, 9, 10, 0);
            due("not shown any more", "9,6", 0, far, o);
            CHECK.due("still following", 2, far.object(o, Scenes.MODE));
            SceneCycle near = walking(9, 0, 5, 6, 9, o, 6, 6, 12, o, 3, 14, o, 9, 10, 0);
            due("not shown any more, but near", "6,6", 0, near, o);
            CHECK.due("it does not arrive", false, near.flag(9));
            CHECK.due("still following", 2, near.object(o, Scenes.MODE));
        }
    }

    private static void arrivesNearTheFirst() {
        CHECK.sentence("it ARRIVES when the columns x of both differ by at most 2 and the rows by at most 1");
        for (int dx = -4; dx <= 4; dx++) {
            for (int dy = -3; dy <= 3; dy++) {
                SceneCycle scene = walking(9, 0, 7, 7, 9, 2, 7 + dx, 7 + dy, 14, 2, 9);
                boolean near = dx >= -2 && dx <= 2 && dy >= -1 && dy <= 1;
                CHECK.due("by " + dx + ", " + dy + ": flag", near, scene.flag(9));
                CHECK.due("by " + dx + ", " + dy + ": mode", near ? 0 : 2, scene.object(2, Scenes.MODE));
            }
        }
        SceneCycle wide = walking(11, 0, 4, 4, 11, 2, 4, 4, 9, 0, 4, 7, 9, 2, 8, 8, 14, 2, 9);
        CHECK.due("wide ones side by side", false, wide.flag(9));
        SceneCycle corners = walking(9, 0, 0, 11, 9, 2, 15, 11, 14, 2, 9);
        due("from one end of the row", "14,11", 7, corners, 2);
    }

    private static void towardsTheFirst() {
        CHECK.sentence("and otherwise the direction is the one towards object 0's place");
        for (int d = 1; d <= 8; d++) {
            int x = 7 + 3 * STEP_RIGHT[d];
            int y = 7 + 3 * STEP_DOWN[d];
            SceneCycle scene = walking(9, 0, x, y, 9, 3, 7, 7, 14, 3, 9);
            due("object 0 by " + d, (7 + STEP_RIGHT[d]) + "," + (7 + STEP_DOWN[d]), d, scene, 3);
        }
        due("in the same column", "7,8", 5, walking(9, 0, 7, 9, 9, 3, 7, 7, 14, 3, 9), 3);
        due("in the same row", "8,7", 3, walking(9, 0, 10, 7, 9, 3, 7, 7, 14, 3, 9), 3);
    }

    private static void nearAfterItsStep() {
        CHECK.sentence("(as it is by then: object 0 has made its own step before)");
        SceneCycle comes = walking(9, 0, 4, 7, 12, 0, 3, 9, 2, 7, 7, 14, 2, 9);
        CHECK.due("from 3 columns to 2", true, comes.flag(9));
        SceneCycle leaves = walking(9, 0, 5, 7, 12, 0, 7, 9, 2, 7, 7, 14, 2, 9);
        CHECK.due("from 2 columns to 3", false, leaves.flag(9));
        due("after it", "6,7", 7, leaves, 2);
        SceneCycle down = walking(9, 0, 7, 5, 12, 0, 5, 9, 2, 7, 7, 14, 2, 9);
        CHECK.due("from 2 rows to 1", true, down.flag(9));
        SceneCycle up = walking(9, 0, 7, 6, 12, 0, 1, 9, 2, 7, 7, 14, 2, 9);
        CHECK.due("from 1 row to 2", false, up.flag(9));
    }

    private static void luckWrapsAround() {
        CHECK.sentence("direction 1 + (luck + o) % 8");
        int[] lucks = {0, 1, 4, 5, 6, 7, 8, 127, 128, 252, 253, 254, 255};
        for (int o = 0; o <= 3; o++) {
            for (int luck : lucks) {
                SceneCycle scene = Scenes.onceOnly(Scenes.NO_PICTURE, 9, o, 7, 7, 15, o);
                scene.cycle(0, 0, luck);
                int d = 1 + (luck + o) % 8;
                due("luck " + luck + " of " + o, (7 + STEP_RIGHT[d]) + "," + (7 + STEP_DOWN[d]), d, scene, o);
            }
        }
        SceneCycle seven = Scenes.onceOnly(Scenes.NO_PICTURE, 9, 0, 7, 7, 15, 0);
        seven.cycle(0, 0, 7);
        CHECK.due("luck 7 of 0", 8, seven.object(0, Scenes.DIRECTION));
        SceneCycle eight = Scenes.onceOnly(Scenes.NO_PICTURE, 9, 0, 7, 7, 15, 0);
        eight.cycle(0, 0, 8);
        CHECK.due("luck 8 of 0", 1, eight.object(0, Scenes.DIRECTION));
        SceneCycle most = Scenes.onceOnly(Scenes.NO_PICTURE, 9, 3, 7, 7, 15, 3);
        most.cycle(0, 0, 255);
        CHECK.due("luck 255 of 3", 3, most.object(3, Scenes.DIRECTION));
    }

    private static void wanderersLatestMotion() {
        CHECK.sentence("Wandering: when it did not move in its latest motion (or had none)");
        // Flag 3: wandering. Flag 4: hidden, flag 5: shown again where it was. Flag 6: free, downwards.
        int[] logic = {
            8, 2, 3, 2, 15, 1, 8, 2, 4, 2, 10, 1, 8, 2, 5, 4, 9, 1, 5, 6, 8, 2, 6, 3, 12, 1, 5
        };
        SceneCycle none = Scenes.withLogic(logic);
        none.mark(3, true);
        none.mark(5, true);
        none.cycle(0, 0, 1);
        due("it had no motion", "6,6", 3, none, 1);
        none.mark(5, false);
        none.cycle(0, 0, 5);
        due("it moved", "7,6", 3, none, 1);
        none.mark(4, true);
        none.cycle(0, 0, 5);
        due("not shown", "7,6", 3, none, 1);
        none.mark(4, false);
        none.mark(5, true);
        none.cycle(0, 0, 5);
        due("shown again: it moved in its latest motion", "6,6", 3, none, 1);

        SceneCycle stood = Scenes.withLogic(logic);
        stood.mark(5, true);
        stood.cycle(0, 0, 1);
        due("free, without a direction", "5,6", 0, stood, 1);
        stood.mark(5, false);
        stood.mark(4, true);
        stood.cycle(0, 0, 1);
        stood.mark(4, false);
        stood.mark(5, true);
        stood.mark(3, true);
        stood.cycle(0, 0, 5);
        due("shown again: it did not move in its latest motion", "4,6", 7, stood, 1);

        SceneCycle walked = Scenes.withLogic(logic);
        walked.mark(5, true);
        walked.mark(6, true);
        walked.cycle(0, 0, 1);
        due("free, downwards", "5,7", 5, walked, 1);
        walked.mark(5, false);
        walked.mark(6, false);
        walked.mark(3, true);
        walked.cycle(0, 0, 1);
        due("it moved as a free one", "5,8", 5, walked, 1);
        stoppedWanderer();
        turnedWanderer();
    }

    private static void turnedWanderer() {
        // In every cycle object 1 becomes free with direction 7, or 0 with flag 9, and wanders again.
        int[] logic = {8, 5, 2, 8, 6, 4, 8, 9, 1, 9, 6, 12, 1, 7, 8, 2, 9, 3, 12, 1, 0, 15, 1};
        SceneCycle scene = Scenes.withLogic(logic);
        scene.cycle(0, 0, 1);
        due("it had no motion: by luck", "10,6", 3, scene, 1);
        scene.cycle(0, 0, 1);
        due("it moved: as it was turned", "9,6", 7, scene, 1);
        scene.mark(9, true);
        scene.cycle(0, 0, 1);
        due("it moved: as it was halted", "9,6", 0, scene, 1);
        scene.cycle(0, 0, 1);
        due("it did not move: by luck", "10,6", 3, scene, 1);
    }

    private static void stoppedWanderer() {
        SceneCycle edge = Scenes.onceOnly(Scenes.NO_PICTURE, 9, 1, 14, 6, 15, 1);
        edge.cycle(0, 0, 1);
        due("up to the edge", "15,6", 3, edge, 1);
        edge.cycle(0, 0, 5);
        due("it touches it", "15,6", 3, edge, 1);
        edge.cycle(0, 0, 1);
        due("a new direction: the same", "15,6", 3, edge, 1);
        edge.cycle(0, 0, 5);
        due("a new direction: back", "14,6", 7, edge, 1);
        edge.cycle(0, 0, 1);
        due("it moved: no new one", "13,6", 7, edge, 1);
    }

    private static void arriving() {
        CHECK.sentence("To ARRIVE: the flag is set, the object is free, its direction 0");
        for (int f = 0; f <= 14; f++) {
            SceneCycle scene = walking(9, 3, 5, 6, 12, 3, 7, 13, 3, 5, 6, f);
            CHECK.due("flag " + f, true, scene.flag(f));
            due("it stands", "5,6", 0, scene, 3);
            CHECK.due("free", 0, scene.object(3, Scenes.MODE));
            CHECK.due("another flag", false, scene.flag(f == 14 ? 13 : 14));
        }
        SceneCycle last = Scenes.withLogic(9, 3, 5, 6, 13, 3, 5, 6, 15);
        Scenes.plainCycle(last);
        CHECK.due("flag 15", true, last.flag(15));
        SceneCycle set = Scenes.onceOnly(Scenes.NO_PICTURE, 9, 3, 5, 6, 13, 3, 5, 6, 9);
        set.mark(9, true);
        Scenes.plainCycle(set);
        CHECK.due("a flag that was set already", true, set.flag(9));
    }

    private static void directionZero() {
        CHECK.sentence("With direction 0 it does not move");
        int[][] places = {{0, 0}, {15, 0}, {0, 11}, {15, 11}, {7, 2}};
        for (int[] place : places) {
            SceneCycle scene = walking(9, 0, place[0], place[1]);
            due("it stands", place[0] + "," + place[1], 0, scene, 0);
            CHECK.due("and touches nothing", 0, scene.variable(0));
        }
    }

    private static void oneOn() {
        CHECK.sentence("Otherwise its next place is one column, one row, or both on");
        for (int d = 1; d <= 8; d++) {
            for (int o = 0; o <= 3; o++) {
                due("direction " + d + " of " + o, (7 + STEP_RIGHT[d]) + "," + (7 + STEP_DOWN[d]), d,
                        walking(9, o, 7, 7, 12, o, d), o);
            }
        }
    }

    /** Object 0, of that width, begins at (x, y) in direction d; edge 0: it moves. */
    private static void touches(int edge, int width, int x, int y, int d) {
        SceneCycle scene = walking(11, 0, width, 1, 9, 0, x, y, 12, 0, d);
        String what = "width " + width + " at " + x + "," + y + " by " + d;
        CHECK.due(what + ": edge", edge, scene.variable(0));
        if (edge == 0) {
            due(what, (x + STEP_RIGHT[d]) + "," + (y + STEP_DOWN[d]), d, scene, 0);
        } else {
            due(what, x + "," + y, 0, scene, 0);
        }
    }

    private static void leftEdge() {
        CHECK.sentence("4 the next column is below 0");
        for (int width = 1; width <= 4; width++) {
            for (int d = 6; d <= 8; d++) {
                touches(0, width, 2, 6, d);
                touches(0, width, 1, 6, d);
                touches(4, width, 0, 6, d);
            }
            touches(0, width, 0, 6, 1);
            touches(0, width, 0, 6, 3);
            touches(0, width, 0, 6, 5);
        }
    }

    private static void rightEdge() {
        CHECK.sentence("2 next column + width is above 16");
        for (int width = 1; width <= 4; width++) {
            for (int d = 2; d <= 4; d++) {
                touches(0, width, 14 - width, 6, d);
                touches(0, width, 15 - width, 6, d);
                touches(2, width, 16 - width, 6, d);
            }
            touches(0, width, 16 - width, 6, 1);
            touches(0, width, 16 - width, 6, 5);
            touches(0, width, 16 - width, 6, 7);
        }
    }

    private static void lowestEdge() {
        CHECK.sentence("3 the next row is above 11");
        for (int d = 4; d <= 6; d++) {
            touches(0, 1, 7, 9, d);
            touches(0, 1, 7, 10, d);
            touches(3, 1, 7, 11, d);
        }
        touches(0, 1, 7, 11, 1);
        touches(0, 1, 7, 11, 3);
        touches(0, 1, 7, 11, 7);
    }

    private static void topEdge() {
        CHECK.sentence("1 the next row is below 3");
        int[] up = {8, 1, 2};
        for (int d : up) {
            touches(0, 1, 7, 5, d);
            touches(0, 1, 7, 4, d);
            touches(1, 1, 7, 3, d);
            touches(1, 1, 7, 2, d);
            touches(1, 1, 7, 0, d);
        }
        touches(0, 1, 7, 3, 3);
        touches(0, 1, 7, 3, 5);
        touches(0, 1, 7, 3, 7);
        touches(1, 1, 7, 2, 3);
        touches(1, 1, 7, 2, 7);
        for (int d = 4; d <= 6; d++) {
            touches(0, 1, 7, 2, d);
            touches(1, 1, 7, 1, d);
            touches(1, 1, 7, 0, d);
        }
    }

    private static void firstEdgeThatHolds() {
        CHECK.sentence("It TOUCHES an edge, the first of these that holds");
        touches(4, 1, 0, 3, 8);
        touches(4, 1, 0, 11, 6);
        touches(4, 1, 0, 2, 7);
        touches(4, 1, 0, 0, 8);
        for (int width = 1; width <= 4; width++) {
            touches(2, width, 16 - width, 3, 2);
            touches(2, width, 16 - width, 11, 4);
            touches(2, width, 16 - width, 2, 3);
        }
        touches(3, 1, 0, 11, 5);
        touches(3, 1, 15, 11, 5);
        touches(1, 1, 0, 3, 1);
        touches(1, 1, 15, 3, 1);
        touches(3, 1, 1, 11, 6);
        touches(3, 1, 14, 11, 4);
        touches(1, 1, 1, 3, 8);
        touches(1, 1, 14, 3, 2);
    }

    private static void edgeBeforeBlock() {
        CHECK.sentence("If it touches none, it is BLOCKED in two cases");
        int[] barriers = {242, 0, 244, 0, 2, 15, 2, 255};
        SceneCycle top = Scenes.played(barriers, 18, 9, 0, 7, 3, 12, 0, 1);
        CHECK.due("a barrier beyond the edge", 1, top.variable(0));
        SceneCycle other = walking(9, 0, 7, 3, 12, 0, 1, 9, 1, 7, 2);
        CHECK.due("another object beyond the edge", 1, other.variable(0));
        SceneCycle low = Scenes.played(Scenes.bytes(242, 0, 246, 7, 7, 255), 18, 16, 0, 15, 9, 0, 7, 11, 12, 0, 5);
        due("priority 15 does not help", "7,11", 0, low, 0);
        CHECK.due("edge", 3, low.variable(0));
        SceneCycle blocked = Scenes.played(Scenes.bytes(242, 0, 246, 7, 7, 255), 18, 9, 0, 7, 7, 12, 0, 5);
        CHECK.due("blocked, but no edge", 0, blocked.variable(0));
    }

    private static void edgeOfAnother() {
        CHECK.sentence("when object 0 touches an edge, variable 0 becomes that edge's number");
        for (int o = 1; o <= 3; o++) {
            SceneCycle scene = walking(9, o, 15, 6, 12, o, 3);
            due("object " + o, "15,6", 0, scene, o);
            CHECK.due("of another object", 0, scene.variable(0));
        }
        SceneCycle both = walking(9, 0, 15, 6, 12, 0, 3, 9, 1, 0, 6, 12, 1, 7);
        CHECK.due("of object 0, and then of another", 2, both.variable(0));
        Scenes.plainCycle(both);
        CHECK.due("the next cycle", 0, both.variable(0));
        SceneCycle wandering = Scenes.onceOnly(Scenes.NO_PICTURE, 9, 0, 0, 6, 15, 0);
        wandering.cycle(0, 0, 6);
        CHECK.due("of a wandering object 0", 4, wandering.variable(0));
    }

    /** Whether an object walks to the right from (6, 7) onto that control at (7, 7). */
    private static boolean passes(int control, int... more) {
        int[] picture = {242, control, 244, 7, 7, 255};
        SceneCycle scene = Scenes.played(picture, Scenes.join(Scenes.bytes(18, 9, 2, 6, 7, 12, 2, 3), more));
        boolean moved = scene.object(2, Scenes.X) == 7;
        due("control " + control, moved ? "7,7" : "6,7", moved ? 3 : 0, scene, 2);
        return moved;
    }

    private static void priorityFifteen() {
        CHECK.sentence("its priority (as it is before the step) is not 15");
        for (int rank = 4; rank <= 15; rank++) {
            CHECK.due("control 0, rank " + rank, rank == 15, passes(0, 16, 2, rank));
            CHECK.due("control 1, rank " + rank, rank == 15, passes(1, 16, 2, rank));
        }
        CHECK.due("rank 0", false, passes(0, 16, 2, 15, 16, 2, 0));
        SceneCycle lowest = Scenes.played(Scenes.bytes(242, 0, 244, 7, 11, 255), 18, 9, 2, 6, 11, 12, 2, 3);
        due("the lowest row's priority is 11", "6,11", 0, lowest, 2);
    }

    private static void barrierControls() {
        CHECK.sentence("some cell of its next base has control 0, or has control 1 while it isn't ignoring");
        for (int control = 0; control <= 15; control++) {
            CHECK.due("control " + control, control >= 2, passes(control));
            CHECK.due("control " + control + ", ignoring", control >= 1, passes(control, 17, 2, 1));
        }
        CHECK.due("not ignoring any more", false, passes(1, 17, 2, 1, 17, 2, 0));
    }

    private static void barrierUnderTheBase() {
        CHECK.sentence("some cell of its next base has control 0");
        for (int width = 1; width <= 4; width++) {
            for (int column = 3; column <= 10; column++) {
                int[] picture = {242, 0, 244, column, 7, 255};
                SceneCycle scene = Scenes.played(picture, 18, 11, 2, width, 4, 9, 2, 4, 7, 12, 2, 3);
                boolean under = column >= 5 && column < 5 + width;
                due("width " + width + " to the right, column " + column, under ? "4,7" : "5,7", under ? 0 : 3, scene, 2);
                scene = Scenes.played(picture, 18, 11, 2, width, 4, 9, 2, 5, 8, 12, 2, 1);
                due("width " + width + " upwards, column " + column, under ? "5,8" : "5,7", under ? 0 : 1, scene, 2);
            }
        }
        for (int row = 4; row <= 10; row++) {
            SceneCycle tall = Scenes.played(Scenes.bytes(242, 0, 244, 5, row, 255), 18, 11, 2, 1, 4, 9, 2, 4, 7, 12, 2, 3);
            due("its height does not count, row " + row, row == 7 ? "4,7" : "5,7", row == 7 ? 0 : 3, tall, 2);
        }
        SceneCycle off = Scenes.played(Scenes.bytes(242, 0, 244, 4, 7, 255), 18, 9, 2, 4, 7, 12, 2, 3);
        due("off a barrier", "5,7", 3, off, 2);
    }

    private static void anotherBase() {
        CHECK.sentence("whatever its priority, some cell of its next base is in the base of another shown object");
        for (int width = 1; width <= 4; width++) {
            for (int otherWidth = 1; otherWidth <= 4; otherWidth++) {
                for (int x = 0; x <= 11; x++) {
                    SceneCycle scene = walking(11, 2, width, 4, 9, 2, 4, 7, 12, 2, 3, 16, 2, 15, 17, 2, 1,
                            11, 1, otherWidth, 4, 9, 1, x, 7);
                    boolean meets = x < 5 + width && 5 < x + otherWidth;
                    due("widths " + width + ", " + otherWidth + " at " + x, meets ? "4,7" : "5,7",
                            meets ? 0 : 3, scene, 2);
                }
            }
        }
        for (int row = 5; row <= 9; row++) {
            SceneCycle scene = walking(9, 2, 4, 7, 12, 2, 3, 11, 1, 4, 4, 9, 1, 5, row);
            due("in row " + row, row == 7 ? "4,7" : "5,7", row == 7 ? 0 : 3, scene, 2);
        }
        for (int o = 0; o <= 3; o++) {
            for (int other = 0; other <= 3; other++) {
                if (other != o) {
                    due(o + " before " + other, "4,7", 0, walking(9, other, 5, 7, 9, o, 4, 7, 12, o, 3), o);
                }
            }
        }
        due("its own base is no other's", "5,7", 3, walking(11, 2, 4, 4, 9, 2, 4, 7, 12, 2, 3), 2);
    }

    private static void anotherThatIsNotShown() {
        CHECK.sentence("in the base of another shown object");
        due("never shown, at (0, 0)", "0,3", 7, walking(9, 2, 1, 3, 12, 2, 7), 2);
        due("not shown any more", "5,7", 3, walking(9, 1, 5, 7, 10, 1, 9, 2, 4, 7, 12, 2, 3), 2);
        due("shown", "4,7", 0, walking(9, 1, 5, 7, 9, 2, 4, 7, 12, 2, 3), 2);
    }

    private static void stoppedDirection() {
        CHECK.sentence("it does not move, and its direction becomes 0 unless it is wandering");
        int[] wall = {242, 0, 244, 7, 7, 255};
        SceneCycle free = Scenes.played(wall, 18, 9, 1, 6, 7, 12, 1, 3);
        due("free", "6,7", 0, free, 1);
        SceneCycle going = Scenes.played(wall, 18, 9, 1, 6, 7, 13, 1, 9, 7, 9);
        due("going", "6,7", 0, going, 1);
        CHECK.due("still going", 1, going.object(1, Scenes.MODE));
        SceneCycle following = Scenes.played(wall, 18, 9, 0, 10, 7, 9, 1, 6, 7, 14, 1, 9);
        due("following", "6,7", 0, following, 1);
        CHECK.due("still following", 2, following.object(1, Scenes.MODE));
        SceneCycle wandering = Scenes.onceOnly(wall, 18, 9, 1, 6, 7, 15, 1);
        wandering.cycle(0, 0, 1);
        due("wandering", "6,7", 3, wandering, 1);
        SceneCycle atEdge = Scenes.onceOnly(Scenes.NO_PICTURE, 9, 1, 15, 7, 15, 1);
        atEdge.cycle(0, 0, 1);
        due("wandering, at an edge", "15,7", 3, atEdge, 1);
        due("free, at an edge", "15,7", 0, walking(9, 1, 15, 7, 12, 1, 3), 1);
        due("free, before another one", "6,7", 0, walking(9, 1, 6, 7, 12, 1, 3, 9, 2, 7, 7), 1);
    }

    /** Object 0, of that width, stands in row 7 from column 5 on; a line of the control lies in that row. */
    private static SceneCycle standing(int control, int width, int from, int to) {
        return Scenes.played(Scenes.bytes(242, control, 244, from, 7, to, 7, 255),
                18, 11, 0, width, 4, 9, 0, 5, 7);
    }

    private static void allCellsThree() {
        CHECK.sentence("flag 0 is set when all cells of its base have control 3, else not");
        for (int width = 1; width <= 4; width++) {
            int last = 5 + width - 1;
            CHECK.due("all " + width, true, standing(3, width, 5, last).flag(0));
            CHECK.due("more than all", true, standing(3, width, 4, last + 1).flag(0));
            CHECK.due("all but the first", false, standing(3, width, 6, last + 1).flag(0));
            CHECK.due("all but the last", false, standing(3, width, 4, last - 1).flag(0));
            for (int control = 0; control <= 15; control++) {
                CHECK.due("control " + control, control == 3, standing(control, width, 5, last).flag(0));
            }
        }
        SceneCycle scene = Scenes.onceOnly(Scenes.NO_PICTURE, 9, 0, 5, 7);
        scene.mark(0, true);
        Scenes.plainCycle(scene);
        CHECK.due("else not, if it was set before", false, scene.flag(0));
    }

    private static void someCellTwo() {
        CHECK.sentence("flag 1 is set when some cell of it has control 2, else not");
        for (int width = 1; width <= 4; width++) {
            int last = 5 + width - 1;
            CHECK.due("the first", true, standing(2, width, 0, 5).flag(1));
            CHECK.due("the last", true, standing(2, width, last, 15).flag(1));
            CHECK.due("up to the first, not included", false, standing(2, width, 0, 4).flag(1));
            CHECK.due("from behind the last", false, standing(2, width, last + 1, 15).flag(1));
            for (int control = 0; control <= 15; control++) {
                CHECK.due("control " + control, control == 2, standing(control, width, 5, last).flag(1));
            }
        }
        int[] bothKinds = {242, 3, 244, 5, 7, 8, 7, 242, 2, 244, 8, 7, 255};
        SceneCycle both = Scenes.played(bothKinds, 18, 11, 0, 4, 1, 9, 0, 5, 7);
        CHECK.due("three of control 3", false, both.flag(0));
        CHECK.due("one of control 2", true, both.flag(1));
        SceneCycle above = Scenes.played(Scenes.bytes(242, 2, 244, 5, 6, 255), 18, 11, 0, 1, 4, 9, 0, 5, 7);
        CHECK.due("above its base", false, above.flag(1));
        SceneCycle scene = Scenes.onceOnly(Scenes.NO_PICTURE, 9, 0, 5, 7);
        scene.mark(1, true);
        Scenes.plainCycle(scene);
        CHECK.due("else not, if it was set before", false, scene.flag(1));
    }

    private static void groundAfterTheStep() {
        CHECK.sentence("After the step of object 0");
        int[] picture = {242, 3, 244, 6, 7, 242, 2, 244, 7, 7, 255};
        SceneCycle scene = Scenes.onceOnly(picture, 18, 9, 0, 5, 7, 12, 0, 3);
        boolean[] water = {true, false, false};
        boolean[] signal = {false, true, false};
        for (int i = 0; i < 3; i++) {
            Scenes.plainCycle(scene);
            CHECK.due("flag 0 at " + Scenes.place(scene, 0), water[i], scene.flag(0));
            CHECK.due("flag 1 at " + Scenes.place(scene, 0), signal[i], scene.flag(1));
        }
        SceneCycle stopped = Scenes.played(picture, 18, 9, 0, 7, 7, 12, 0, 3, 9, 1, 8, 7);
        CHECK.due("it did not move", true, stopped.flag(1));
        SceneCycle later = walking(9, 0, 5, 7, 9, 3, 9, 9, 13, 3, 9, 9, 0);
        CHECK.due("a later arrival sets flag 0", true, later.flag(0));
        SceneCycle own = walking(9, 0, 5, 7, 13, 0, 5, 7, 1);
        CHECK.due("its own arrival comes before", false, own.flag(1));
    }

    private static void groundWithoutTheFirst() {
        CHECK.sentence("(When object 0 is not shown, both stay.)");
        int[] picture = {242, 3, 244, 0, 0, 242, 2, 244, 5, 7, 255};
        SceneCycle scene = Scenes.onceOnly(picture, 18, 9, 1, 5, 7);
        Scenes.plainCycle(scene);
        CHECK.due("flag 0 is not set", false, scene.flag(0));
        CHECK.due("flag 1 is not set", false, scene.flag(1));
        scene.mark(0, true);
        scene.mark(1, true);
        Scenes.plainCycle(scene);
        CHECK.due("flag 0 stays set", true, scene.flag(0));
        CHECK.due("flag 1 stays set", true, scene.flag(1));
    }
}
