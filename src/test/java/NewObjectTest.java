/** Promise 1: a new object. */
public final class NewObjectTest {
    public static void main(String[] args) {
        Check check = new Check();
        isEmpty(check);
        limits(check);
        check.end();
    }

    private static void isEmpty(Check check) {
        SceneCycle scene = new SceneCycle(50);
        check.due("cycles", 0, scene.cycles());
        check.due("steps", 0, scene.steps());
        for (int i = 0; i < 16; i++) {
            check.due("variable " + i, 0, scene.variable(i));
            check.due("flag " + i, false, scene.flag(i));
        }
        for (int o = 0; o < 4; o++) {
            int[] due = {0, 0, 0, 0, 4, 0, 1, 1};
            for (int what = 0; what < due.length; what++) {
                check.due("object " + o + " " + what, due[what], scene.object(o, what));
            }
        }
        check.due("colours", Scenes.rows('f'), Scenes.layerOf(scene, 0));
        check.due("controls", Scenes.rows('4'), Scenes.layerOf(scene, 1));
        for (int r = 0; r < 4; r++) {
            check.due("resource " + r + " is empty", 1, scene.put(r, 255, 1));
        }
        check.due("no logic is loaded", 0, Scenes.plainCycle(new SceneCycle(50)));
    }

    private static void limits(Check check) {
        int[][] limits = {
            {Integer.MIN_VALUE, 16}, {-1, 16}, {0, 16}, {15, 16}, {16, 16}, {17, 17}, {100, 100},
            {199, 199}, {200, 200}, {201, 200}, {Integer.MAX_VALUE, 200}
        };
        for (int[] limit : limits) {
            SceneCycle scene = new SceneCycle(limit[0]);
            Scenes.addLoaded(scene, 1, 7, 254);
            check.due("limit " + limit[0] + " is overrun", -2, Scenes.plainCycle(scene));
            check.due("limit " + limit[0], limit[1], scene.steps());
        }
    }
}
