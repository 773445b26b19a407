/** Promises 5 and 6: cycles and steps. */
public final class CountsTest {
    public static void main(String[] args) {
        Check check = new Check();
        SceneCycle scene = Scenes.withLogic(8, 3, 5, 4, 4, 2, 4, 3, 8, 3, 9, 2, 7, 254);
        check.due("no cycle", 0, scene.cycles());
        check.due("no steps", 0, scene.steps());
        check.due("cycle", 2, scene.cycle(0, 0, 0));
        check.due("cycles", 1, scene.cycles());
        check.due("steps", 2, scene.steps());
        check.due("cycle", 4, scene.cycle(5, 0, 0));
        check.due("steps of the latest one", 4, scene.steps());
        check.due("refused", -1, scene.cycle(5, 9, 0));
        check.due("refused ones do not count", 2, scene.cycles());
        check.due("and leave the steps", 4, scene.steps());
        check.due("overrun", -2, scene.cycle(9, 0, 0));
        check.due("overrun counts", 3, scene.cycles());
        check.due("as many as the limit", 200, scene.steps());
        check.due("over", -1, scene.cycle(0, 0, 0));
        check.due("does not count", 3, scene.cycles());
        check.due("steps stay", 200, scene.steps());

        SceneCycle deep = Scenes.withLogic(4, 2, 6, 1);
        check.due("deep", -3, deep.cycle(0, 0, 0));
        check.due("deep counts", 1, deep.cycles());
        check.due("the CALL is counted", 8, deep.steps());

        SceneCycle late = new SceneCycle(50);
        late.cycle(0, 0, 0);
        late.cycle(0, 0, 0);
        check.due("cycles without a logic", 2, late.cycles());
        check.due("have no steps", 0, late.steps());
        check.end();
    }
}
