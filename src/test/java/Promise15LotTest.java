/** Promise 15: lot returns something of a lot of which parts are left. */
public final class Promise15LotTest {
    public static void main(String[] args) {
        ranksLots();
        tellsWhatIsLeft();
        isRefused();
        Script.end();
    }

    private static void is(Script script, String lot, long trade, long parts, long cost) {
        script.due("lot(" + lot + ", 0)", trade).due("lot(" + lot + ", 1)", parts).due("lot(" + lot + ", 2)", cost);
    }

    private static void ranksLots() {
        Script script = new Script("ranks of lots").due("client()", 0).due("client()", 1)
                .due("pay(0, 100000)", 100000).due("pay(1, 100000)", 100000)
                .due("buy(0, 0, 1000)", 0).due("buy(1, 0, 2000)", 1).due("buy(0, 1, 3000)", 2)
                .due("buy(0, 0, 4000)", 3).due("buy(0, 0, 5000)", 4);
        is(script, "0, 0, 0", 0, 100, 1010);
        is(script, "0, 0, 1", 3, 400, 4040);
        is(script, "0, 0, 2", 4, 500, 5050);
        is(script, "0, 0, 3", -1, -1, -1);
        is(script, "1, 0, 0", 1, 200, 2020);
        is(script, "1, 0, 1", -1, -1, -1);
        is(script, "0, 1, 0", 2, 300, 3030);
        is(script, "0, 2, 0", -1, -1, -1);
        is(script, "0, 0, 2147483647", -1, -1, -1);
        // The middle one does not stand any more, and then the first is sold.
        script.due("complain(3)", 0);
        is(script, "0, 0, 1", 4, 500, 5050);
        is(script, "0, 0, 2", -1, -1, -1);
        script.due("sell(0, 0, 100)", 5);
        is(script, "0, 0, 0", 4, 500, 5050);
        is(script, "0, 0, 1", -1, -1, -1);
        is(script, "1, 0, 0", 1, 200, 2020);
    }

    private static void tellsWhatIsLeft() {
        Script script = new Script("what is left of a lot").due("client()", 0).due("pay(0, 100000)", 100000)
                .due("price(3, 333)", 10000).due("buy(0, 3, 1000)", 0);
        is(script, "0, 3, 0", 0, 3003, 1010);
        // 1010 * 1000 / 3003 = 336.33.
        script.due("sell(0, 3, 1000)", 1);
        is(script, "0, 3, 0", 0, 2003, 674);
        // 674 * 2000 / 2003 = 672.99.
        script.due("sell(0, 3, 2000)", 2);
        is(script, "0, 3, 0", 0, 3, 2);
        script.due("price(3, 1000)", 333).due("sell(0, 3, 2)", 3);
        // 2 * 2 / 3 = 1.33.
        is(script, "0, 3, 0", 0, 1, 1);
        script.due("sell(0, 3, 1)", 4);
        is(script, "0, 3, 0", -1, -1, -1);
        // Sales of all parts take all the cost: 1010 in all.
        script.due("year(0, 0, 0)", 330 + 660 + 2 + 1 - 1010);
    }

    private static void isRefused() {
        Script script = new Script("wrong questions for lots");
        script.refused("lot(0, 0, 0, 0)", Script.INDEX);
        script.refused("lot(-1, 0, 0, 0)", Script.INDEX);
        script.due("client()", 0);
        script.refused("lot(1, 0, 0, 0)", Script.INDEX);
        script.refused("lot(0, 6, 0, 0)", Script.INDEX);
        script.refused("lot(0, -1, 0, 0)", Script.INDEX);
        script.refused("lot(0, 0, -1, 0)", Script.INDEX);
        script.refused("lot(0, 0, -2147483648, 0)", Script.INDEX);
        script.refused("lot(0, 0, -1, 3)", Script.INDEX);
        script.refused("lot(0, 6, 0, 3)", Script.INDEX);
        script.refused("lot(1, 0, 0, -1)", Script.INDEX);
        script.refused("lot(0, 0, 0, 3)", Script.ARGUMENT);
        script.refused("lot(0, 0, 0, -1)", Script.ARGUMENT);
        script.refused("lot(0, 0, 5, 2147483647)", Script.ARGUMENT);
        script.due("lot(0, 0, 0, 2)", -1);
    }
}
