/** Promise 5: goal sets the goal of a client for a fund, and returns what they are together. */
public final class Promise05GoalTest {
    public static void main(String[] args) {
        addsUp();
        isRefused();
        Script.end();
    }

    private static void addsUp() {
        new Script("goals").due("client()", 0).due("client()", 1)
                .due("goal(0, 0, 10)", 10).due("goal(0, 1, 20)", 30).due("goal(0, 2, 30)", 60)
                .due("goal(0, 3, 5)", 65).due("goal(0, 4, 5)", 70).due("goal(0, 5, 30)", 100)
                .due("goal(1, 5, 100)", 100).due("goal(0, 5, 30)", 100).due("goal(0, 5, 0)", 70)
                .due("goal(0, 0, 40)", 100).due("goal(0, 0, 0)", 60).due("goal(1, 5, 0)", 0);
    }

    private static void isRefused() {
        Script script = new Script("wrong goals").due("client()", 0).due("client()", 1).due("goal(0, 0, 60)", 60);
        script.refused("goal(2, 0, 1)", Script.INDEX);
        script.refused("goal(-1, 0, 1)", Script.INDEX);
        script.refused("goal(0, 6, 1)", Script.INDEX);
        script.refused("goal(0, -1, 1)", Script.INDEX);
        script.refused("goal(0, 6, 101)", Script.INDEX);
        script.refused("goal(2, 0, -1)", Script.INDEX);
        script.refused("goal(0, 1, 101)", Script.ARGUMENT);
        script.refused("goal(0, 1, -1)", Script.ARGUMENT);
        script.refused("goal(0, 1, 2147483647)", Script.ARGUMENT);
        script.refused("goal(0, 1, -2147483648)", Script.ARGUMENT);
        script.refused("goal(0, 1, 41)", Script.STATE);
        script.refused("goal(0, 1, 100)", Script.STATE);
        script.due("goal(0, 1, 40)", 100);
        script.refused("goal(0, 0, 61)", Script.STATE);
        script.refused("goal(0, 5, 1)", Script.STATE);
        script.due("goal(0, 5, 0)", 100).due("goal(1, 1, 1)", 1);
    }
}
