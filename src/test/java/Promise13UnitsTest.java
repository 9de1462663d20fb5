/** Promise 13: units returns how many units the house holds. */
public final class Promise13UnitsTest {
    public static void main(String[] args) {
        tellsOfEach();
        holdsAllParts();
        isRefused();
        Script.end();
    }

    private static void tellsOfEach() {
        new Script("units").due("client()", 0).due("pay(0, 1000000)", 1000000)
                .due("buy(0, 0, 10)", 0).due("units(0)", 1).due("units(1)", 0)
                .due("buy(0, 0, 9990)", 1).due("units(0)", 1).due("buy(0, 0, 10)", 2).due("units(0)", 2)
                .due("buy(0, 0, 20000)", 3).due("units(0)", 4).due("buy(0, 5, 123450)", 4).due("units(5)", 13)
                .due("sell(0, 5, 12345)", 5).due("units(5)", 13).due("pass(1)", 1).due("units(5)", 0)
                .due("units(0)", 4).due("complain(5)", 0).due("units(5)", 13).due("complain(4)", 0)
                .due("units(5)", 13).due("pass(1)", 2).due("units(5)", 0);
    }

    /** Units are the parts of clients and the stock together, by 1000. */
    private static void holdsAllParts() {
        Script script = new Script("units of many").due("client()", 0).due("client()", 1).due("client()", 2);
        long parts = 0;
        for (int i = 0; i < 30; i++) {
            int amount = 700 + 370 * i;
            script.make("pay(" + i % 3 + ", 100000)").due("buy(" + i % 3 + ", 2, " + amount + ")", i);
            parts += amount / 10;
            script.due("units(2)", (parts + 999) / 1000).due("parts(-1, 2)", (parts + 999) / 1000 * 1000 - parts);
        }
    }

    private static void isRefused() {
        Script script = new Script("units of no fund").due("units(0)", 0).due("units(5)", 0);
        script.refused("units(6)", Script.INDEX);
        script.refused("units(-1)", Script.INDEX);
        script.refused("units(2147483647)", Script.INDEX);
        script.refused("units(-2147483648)", Script.INDEX);
    }
}
