/** Promise 4: pay pays in, or out, and returns the cash then. */
public final class Promise04PayTest {
    public static void main(String[] args) {
        paysInAndOut();
        isRefused();
        paysOffADebt();
        Script.end();
    }

    private static void paysInAndOut() {
        new Script("pay").due("client()", 0).due("client()", 1)
                .due("pay(0, 10000000)", 10000000).due("pay(0, 10000000)", 20000000).due("pay(0, 1)", 20000001)
                .due("pay(0, -10000000)", 10000001).due("pay(0, -10000000)", 1).due("pay(0, -1)", 0)
                .due("pay(0, 0)", 0).due("pay(1, 7)", 7).due("cash(0)", 0).due("cash(1)", 7)
                // What is paid in or out is the client's alone.
                .due("cash(-1)", 0);
        Script script = new Script("much cash").due("client()", 0);
        for (int i = 1; i <= 300; i++) {
            script.due("pay(0, 10000000)", 10000000L * i);
        }
        script.due("cash(0)", 3000000000L);
    }

    private static void isRefused() {
        Script script = new Script("wrong payments").due("client()", 0).due("pay(0, 100)", 100);
        script.refused("pay(1, 1)", Script.INDEX);
        script.refused("pay(-1, 1)", Script.INDEX);
        script.refused("pay(1, 10000001)", Script.INDEX);
        script.refused("pay(-1, -10000001)", Script.INDEX);
        script.refused("pay(0, 10000001)", Script.ARGUMENT);
        script.refused("pay(0, -10000001)", Script.ARGUMENT);
        script.refused("pay(0, 2147483647)", Script.ARGUMENT);
        script.refused("pay(0, -2147483648)", Script.ARGUMENT);
        script.refused("pay(0, -101)", Script.STATE);
        script.refused("pay(0, -10000000)", Script.STATE);
        script.due("pay(0, -100)", 0);
        script.refused("pay(0, -1)", Script.STATE);
    }

    /** The sale gains 998000 - 10050 = 987950, so that the tax of 246987 is a debt. */
    private static void paysOffADebt() {
        Script script = new Script("a debt").due("client()", 0).due("pay(0, 10050)", 10050)
                .due("buy(0, 0, 10000)", 0).due("cash(0)", 0).due("price(0, 1000000)", 10000)
                .due("sell(0, 0, 1000)", 1).due("pay(0, -998000)", 0).due("pass(360)", 360)
                .due("cash(0)", -246987).due("pay(0, 0)", -246987).due("pay(0, 1)", -246986);
        script.refused("pay(0, -1)", Script.STATE);
        script.due("pay(0, 246986)", 0).due("pay(0, 3)", 3).due("pay(0, -3)", 0);
    }
}
