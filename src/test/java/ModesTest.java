/** Promise 4: objects that go, follow and wander, and the flags of the ground. */
public final class ModesTest {
    private static final Check CHECK = new Check();

    public static void main(String[] args) {
        going();
        goingIsStopped();
        following();
        nearEnough();
        followingNobody();
        wandering();
        latestMotion();
        ground();
        groundAndArrival();
        CHECK.end();
    }

    private static void due(String what, String place, int direction, int mode, SceneCycle scene, int o) {
        CHECK.due(what + ": place", place, Scenes.place(scene, o));
        CHECK.due(what + ": direction", direction, scene.object(o, Scenes.DIRECTION));
        CHECK.due(what + ": mode", mode, scene.object(o, Scenes.MODE));
    }

    private static void going() {
        SceneCycle scene = Scenes.onceOnly(Scenes.NO_PICTURE, 9, 1, 2, 5, 13, 1, 5, 7, 6);
        Scenes.plainCycle(scene);
        due("going", "3,6", 4, 1, scene, 1);
        Scenes.plainCycle(scene);
        due("going", "4,7", 4, 1, scene, 1);
        Scenes.plainCycle(scene);
        due("there, but not arrived", "5,7", 3, 1, scene, 1);
        CHECK.due("flag", false, scene.flag(6));
        Scenes.plainCycle(scene);
        due("arrived", "5,7", 0, 0, scene, 1);
        CHECK.due("flag", true, scene.flag(6));
        scene.mark(6, false);
        Scenes.plainCycle(scene);
        CHECK.due("it arrives once", false, scene.flag(6));

        int[][] goals = {
            {5, 3, 1}, {9, 3, 2}, {9, 6, 3}, {9, 10, 4}, {5, 10, 5}, {1, 10, 6}, {1, 6, 7}, {1, 3, 8},
            {5, 5, 1}, {6, 5, 2}, {6, 6, 3}, {6, 7, 4}, {5, 7, 5}, {4, 7, 6}, {4, 6, 7}, {4, 5, 8}
        };
        for (int[] goal : goals) {
            SceneCycle one = Scenes.onceOnly(Scenes.NO_PICTURE, 9, 0, 5, 6, 13, 0, goal[0], goal[1], 6);
            Scenes.plainCycle(one);
            CHECK.due("towards the goal", goal[2], one.object(0, Scenes.DIRECTION));
        }
        SceneCycle atGoal = Scenes.onceOnly(Scenes.NO_PICTURE, 9, 2, 5, 6, 12, 2, 3, 13, 2, 5, 6, 15, 13, 2, 5, 6, 9);
        Scenes.plainCycle(atGoal);
        due("at its goal already", "5,6", 0, 0, atGoal, 2);
        CHECK.due("the latest flag", true, atGoal.flag(9));
        SceneCycle hidden = Scenes.onceOnly(Scenes.NO_PICTURE, 13, 2, 0, 0, 9);
        Scenes.plainCycle(hidden);
        due("not shown", "0,0", 0, 1, hidden, 2);
        CHECK.due("does not arrive", false, hidden.flag(9));
    }

    private static void goingIsStopped() {
        SceneCycle scene = Scenes.onceOnly(Scenes.NO_PICTURE, 9, 1, 5, 6, 13, 1, 9, 6, 7, 9, 2, 6, 6);
        Scenes.plainCycle(scene);
        due("stopped", "5,6", 0, 1, scene, 1);
        Scenes.plainCycle(scene);
        due("still stopped", "5,6", 0, 1, scene, 1);
        SceneCycle horizon = Scenes.onceOnly(Scenes.NO_PICTURE, 9, 0, 5, 4, 13, 0, 5, 0, 7);
        Scenes.plainCycle(horizon);
        due("to the horizon", "5,3", 1, 1, horizon, 0);
        Scenes.plainCycle(horizon);
        due("stopped there", "5,3", 0, 1, horizon, 0);
        CHECK.due("edge", 1, horizon.variable(0));
        CHECK.due("not arrived", false, horizon.flag(7));
    }

    private static void following() {
        SceneCycle scene = Scenes.onceOnly(Scenes.NO_PICTURE, 9, 0, 10, 9, 9, 1, 2, 5, 14, 1, 8);
        String[] places = {"3,6", "4,7", "5,8", "6,9", "7,9", "8,9"};
        int[] directions = {4, 4, 4, 4, 3, 3};
        for (int i = 0; i < places.length; i++) {
            Scenes.plainCycle(scene);
            due("following", places[i], directions[i], 2, scene, 1);
        }
        CHECK.due("flag", false, scene.flag(8));
        Scenes.plainCycle(scene);
        due("arrived", "8,9", 0, 0, scene, 1);
        CHECK.due("flag", true, scene.flag(8));
        SceneCycle moving = Scenes.onceOnly(Scenes.NO_PICTURE, 9, 0, 5, 6, 12, 0, 3, 9, 1, 3, 6, 14, 1, 8);
        Scenes.plainCycle(moving);
        due("object 0 made its step before", "4,6", 3, 2, moving, 1);
    }

    private static void nearEnough() {
        for (int dx = -3; dx <= 3; dx++) {
            for (int dy = -2; dy <= 2; dy++) {
                SceneCycle scene = Scenes.onceOnly(Scenes.NO_PICTURE, 9, 0, 7, 7, 9, 3, 7 + dx, 7 + dy, 14, 3, 8);
                Scenes.plainCycle(scene);
                boolean near = Math.abs(dx) <= 2 && Math.abs(dy) <= 1;
                CHECK.due("near by " + dx + ", " + dy, near, scene.flag(8));
                CHECK.due("mode by " + dx + ", " + dy, near ? 0 : 2, scene.object(3, Scenes.MODE));
            }
        }
        SceneCycle wide = Scenes.onceOnly(Scenes.NO_PICTURE, 11, 3, 4, 1, 9, 0, 9, 7, 9, 3, 5, 7, 14, 3, 8);
        Scenes.plainCycle(wide);
        CHECK.due("only the columns x count", false, wide.flag(8));
    }

    private static void followingNobody() {
        SceneCycle scene = Scenes.onceOnly(Scenes.NO_PICTURE, 9, 1, 2, 5, 12, 1, 3, 14, 1, 8);
        Scenes.plainCycle(scene);
        due("object 0 is not shown", "2,5", 0, 2, scene, 1);
        CHECK.due("flag", false, scene.flag(8));
    }

    private static void wandering() {
        for (int luck = 0; luck < 9; luck++) {
            for (int o = 0; o < 4; o++) {
                SceneCycle scene = Scenes.onceOnly(Scenes.NO_PICTURE, 9, o, 5, 6, 15, o);
                scene.cycle(0, 0, luck);
                CHECK.due("luck " + luck + " of " + o, 1 + (luck + o) % 8, scene.object(o, Scenes.DIRECTION));
            }
        }
        SceneCycle most = Scenes.onceOnly(Scenes.NO_PICTURE, 9, 3, 5, 6, 15, 3);
        most.cycle(0, 0, 255);
        due("luck 255", "6,6", 3, 3, most, 3);

        SceneCycle scene = Scenes.onceOnly(Scenes.NO_PICTURE, 9, 1, 14, 6, 15, 1);
        scene.cycle(0, 0, 1);
        due("begins", "15,6", 3, 3, scene, 1);
        scene.cycle(0, 0, 5);
        due("it moved: no new direction", "15,6", 3, 3, scene, 1);
        scene.cycle(0, 0, 5);
        due("it did not: a new one", "14,6", 7, 3, scene, 1);
        scene.cycle(0, 0, 1);
        due("and on", "13,6", 7, 3, scene, 1);

        SceneCycle first = Scenes.onceOnly(Scenes.NO_PICTURE, 9, 0, 15, 6, 15, 0);
        first.cycle(0, 5, 2);
        due("object 0 at an edge, without a key", "15,6", 3, 3, first, 0);
        CHECK.due("the edge", 2, first.variable(0));
    }

    private static void latestMotion() {
        // Word 1: free, down. Word 2: wandering. Word 3: hidden. Word 4: shown. Word 5: halted, wandering.
        int[] logic = {
            8, 3, 1, 3, 12, 1, 5, 8, 3, 2, 2, 15, 1, 8, 3, 3, 2, 10, 1, 8, 3, 4, 4, 9, 1, 5, 5,
            8, 3, 5, 5, 12, 1, 0, 15, 1
        };
        SceneCycle scene = Scenes.withLogic(logic);
        scene.cycle(4, 0, 0);
        scene.cycle(1, 0, 0);
        due("free", "5,6", 5, 0, scene, 1);
        scene.cycle(2, 0, 1);
        due("it moved as a free one", "5,7", 5, 3, scene, 1);
        scene.cycle(3, 0, 1);
        due("hidden", "5,7", 5, 3, scene, 1);
        scene.cycle(4, 0, 1);
        due("its latest motion was before", "5,6", 5, 3, scene, 1);
        scene.cycle(5, 0, 1);
        due("it moved before, and has no direction", "5,6", 0, 3, scene, 1);
        scene.cycle(0, 0, 1);
        due("it did not move", "6,6", 3, 3, scene, 1);
    }

    private static void ground() {
        int[] picture = {242, 3, 244, 4, 6, 6, 6, 242, 2, 244, 8, 6, 255};
        SceneCycle scene = Scenes.onceOnly(picture, 18, 11, 0, 2, 1, 9, 0, 2, 6, 12, 0, 3);
        boolean[] water = {false, true, true, false, false, false, false};
        boolean[] signal = {false, false, false, false, true, true, false};
        for (int i = 0; i < water.length; i++) {
            Scenes.plainCycle(scene);
            CHECK.due("water at " + Scenes.place(scene, 0), water[i], scene.flag(0));
            CHECK.due("signal at " + Scenes.place(scene, 0), signal[i], scene.flag(1));
        }
        SceneCycle still = Scenes.onceOnly(picture, 18, 9, 0, 5, 6, 9, 1, 8, 6);
        Scenes.plainCycle(still);
        CHECK.due("standing in water", true, still.flag(0));
        CHECK.due("another one's signal", false, still.flag(1));
        SceneCycle hidden = Scenes.onceOnly(picture, 18, 9, 1, 5, 6);
        hidden.mark(1, true);
        Scenes.plainCycle(hidden);
        CHECK.due("another one's water", false, hidden.flag(0));
        CHECK.due("flags stay without object 0", true, hidden.flag(1));
        SceneCycle dry = Scenes.onceOnly(picture, 18, 9, 0, 1, 6);
        dry.mark(0, true);
        dry.mark(1, true);
        Scenes.plainCycle(dry);
        CHECK.due("no water", false, dry.flag(0));
        CHECK.due("no signal", false, dry.flag(1));
    }

    private static void groundAndArrival() {
        SceneCycle own = Scenes.onceOnly(Scenes.NO_PICTURE, 9, 0, 5, 6, 13, 0, 5, 6, 0);
        Scenes.plainCycle(own);
        due("object 0 arrives", "5,6", 0, 0, own, 0);
        CHECK.due("the ground's flag comes after", false, own.flag(0));
        SceneCycle other = Scenes.onceOnly(Scenes.NO_PICTURE, 9, 0, 5, 6, 9, 1, 7, 6, 13, 1, 7, 6, 0);
        Scenes.plainCycle(other);
        CHECK.due("an arrival after object 0's step", true, other.flag(0));
        Scenes.plainCycle(other);
        CHECK.due("the next step of object 0", false, other.flag(0));
    }
}
