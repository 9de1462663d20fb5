/** "If several apply, IndexOutOfBoundsException goes first, then IllegalArgumentException." */
public final class EdgesExceptionsTest {
    public static void main(String[] args) {
        inANewHall();
        inAFullHall();
        ofADebtor();
        Script.end();
    }

    private static void all(Script script, String exception, String... calls) {
        for (String call : calls) {
            script.refused(call, exception);
        }
    }

    /** Nobody and nothing is there yet: each client and trade that is named is none, whatever else is wrong. */
    private static void inANewHall() {
        Script script = new Script("which exception goes first in a new hall");
        all(script, Script.INDEX,
                "price(6, 9)", "price(-1, 1000001)", "price(6, 10)", "pay(0, -1)", "pay(0, 10000001)", "pay(-1, -10000001)",
                "goal(0, 0, 0)", "goal(0, 6, 101)", "goal(0, 0, -1)", "buy(0, 0, 1)", "buy(0, 0, 0)", "buy(0, 6, 10000001)",
                "sell(0, 0, 1)", "sell(0, 0, 0)", "sell(0, -1, 1000000001)", "balance(0)", "complain(0)", "cash(0)",
                "cash(-2)", "parts(0, 0)", "parts(0, 6)", "parts(-1, 6)", "parts(-2, 6)", "units(6)", "tradeOf(0, 0)",
                "tradeOf(0, 7)", "tradeOf(-1, -1)", "lot(0, 0, 0, 0)", "lot(0, 0, 0, 3)", "lot(0, 6, -1, -1)",
                "lot(-1, 0, 0, 0)", "year(0, 0, 0)", "year(0, 21, 4)", "year(0, 0, -1)", "year(-1, 0, 0)", "wealth(0)",
                "wealth(-1)");
        all(script, Script.ARGUMENT, "price(0, 9)", "price(5, 1000001)", "pass(0)", "pass(401)");
    }

    /** 12 clients, 120 trades, the day 7200, a whole goal, and no cash: no call of a change is possible. */
    private static void inAFullHall() {
        Script script = new Script("which exception goes first in a full hall");
        for (int client = 0; client < 12; client++) {
            script.due("client()", client);
        }
        script.due("pay(0, 1200)", 1200).due("goal(0, 0, 60)", 60).due("goal(0, 5, 40)", 100);
        for (int trade = 0; trade < 120; trade++) {
            script.due("buy(0, 0, 10)", trade);
        }
        script.due("complain(119)", 0).due("pay(0, -10)", 0);
        for (int day = 400; day <= 7200; day += 400) {
            script.due("pass(400)", day);
        }
        all(script, Script.INDEX,
                "pay(12, -1)", "pay(12, -10000001)", "pay(-1, 10000001)",
                "goal(12, 0, 61)", "goal(0, 6, 1)", "goal(0, -1, 101)", "goal(12, 6, -1)",
                "buy(12, 0, 10)", "buy(0, 6, 10)", "buy(12, 0, 0)", "buy(0, 6, 0)", "buy(0, -1, 10000001)",
                "sell(12, 0, 1)", "sell(0, 6, 1)", "sell(12, 0, 0)", "sell(0, 6, 0)", "sell(0, -1, 1000000001)",
                "balance(12)", "balance(-1)", "complain(120)", "complain(-1)",
                "tradeOf(120, 7)", "tradeOf(-1, -1)", "lot(12, 0, 0, 3)", "lot(0, 6, 0, 3)", "lot(0, 0, -1, 3)",
                "lot(0, 0, -1, 0)", "lot(12, 6, -1, -1)", "year(12, 0, 4)", "year(0, 21, 4)", "year(0, -1, -1)",
                "price(6, 0)", "price(-1, 2147483647)", "parts(12, 0)", "parts(0, 6)", "parts(-1, -1)");
        all(script, Script.ARGUMENT,
                "pay(0, -10000001)", "pay(0, -2147483648)", "goal(0, 1, 101)", "goal(0, 1, -1)", "buy(0, 0, 0)",
                "buy(0, 0, 10000001)", "buy(0, 0, -2147483648)", "sell(0, 0, 0)", "sell(0, 0, 1000000001)",
                "sell(1, 0, -1)", "pass(0)", "pass(401)", "pass(-1)", "pass(2147483647)", "pass(-2147483648)",
                "tradeOf(0, 7)", "tradeOf(119, -1)", "lot(0, 0, 0, 3)", "lot(0, 0, 2147483647, 3)", "lot(1, 5, 0, -1)",
                "year(0, 20, 4)", "year(11, 0, -1)");
        all(script, Script.STATE,
                "client()", "pay(0, -1)", "pay(0, -10000000)", "goal(0, 1, 1)", "goal(0, 1, 100)", "goal(0, 0, 61)",
                "buy(0, 0, 10)", "buy(0, 0, 1)", "buy(0, 0, 10000000)", "sell(0, 0, 1)", "sell(0, 0, 1000000000)",
                "sell(1, 0, 1)", "balance(0)", "balance(11)", "complain(119)", "pass(1)", "pass(400)");
        // What is possible still is.
        script.due("pay(0, 0)", 0).due("goal(0, 1, 0)", 100).due("price(0, 10000)", 10000).due("complain(118)", 0)
                .due("cash(0)", 10).due("lot(0, 0, 117, 0)", 117).due("lot(0, 0, 118, 0)", -1);
    }

    /** A wealth below 0, with all that such a client may ask for. */
    private static void ofADebtor() {
        Script script = new Script("which exception goes first for a debtor").due("client()", 0)
                .due("pay(0, 50)", 50).due("price(0, 1000)", 10000).due("buy(0, 0, 50)", 0)
                .due("price(0, 1080)", 1000).due("sell(0, 0, 50)", 1).due("pay(0, -54)", 0).due("complain(1)", 0)
                .due("price(0, 10)", 1080).due("cash(0)", -54).due("wealth(0)", -54);
        all(script, Script.INDEX, "pay(1, -1)", "balance(1)", "buy(0, 6, 1)", "sell(0, 6, 51)", "complain(2)");
        all(script, Script.ARGUMENT, "pay(0, -10000001)", "buy(0, 0, 0)", "sell(0, 0, 0)");
        all(script, Script.STATE,
                "pay(0, -1)", "balance(0)", "buy(0, 0, 1)", "sell(0, 0, 50)", "sell(0, 0, 51)", "sell(0, 1, 1)",
                "complain(1)");
        script.due("pay(0, 0)", -54).due("pay(0, 54)", 0).due("balance(0)", 0);
    }
}
