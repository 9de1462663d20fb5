/** Promise 3: client lets a client come, and returns its number. */
public final class Promise03ClientTest {
    public static void main(String[] args) {
        takesTwelve();
        startsWithNothing();
        comesLater();
        Script.end();
    }

    private static void takesTwelve() {
        Script script = new Script("twelve clients");
        for (int client = 0; client < 12; client++) {
            script.refused("cash(" + client + ")", Script.INDEX);
            script.due("client()", client);
            script.due("cash(" + client + ")", 0);
        }
        script.refused("client()", Script.STATE);
        script.refused("client()", Script.STATE);
        script.refused("cash(12)", Script.INDEX);
        script.due("pay(11, 5)", 5);
        script.due("cash(10)", 0);
    }

    private static void startsWithNothing() {
        Script script = new Script("a client that came just now").due("client()", 0);
        for (int fund = 0; fund < 6; fund++) {
            script.due("parts(0, " + fund + ")", 0).due("lot(0, " + fund + ", 0, 0)", -1);
            script.due("goal(0, " + fund + ", 0)", 0);
        }
        for (int what = 0; what < 4; what++) {
            script.due("year(0, 0, " + what + ")", 0).due("year(0, 20, " + what + ")", 0);
        }
        script.due("wealth(0)", 0).due("cash(-1)", 0);
    }

    private static void comesLater() {
        new Script("a client that comes after years").due("client()", 0).due("pass(400)", 400).due("client()", 1)
                .due("year(1, 0, 3)", 0).due("cash(1)", 0).due("pass(400)", 800).due("cash(1)", 0);
    }
}
