/** Promise 11: cash returns the cash of a client, or the money of the house. */
public final class Promise11CashTest {
    public static void main(String[] args) {
        tellsOfEach();
        isRefused();
        Script.end();
    }

    private static void tellsOfEach() {
        new Script("cash").due("client()", 0).due("client()", 1).due("pay(0, 30000)", 30000).due("cash(-1)", 0)
                .due("cash(0)", 30000).due("cash(1)", 0).due("buy(0, 0, 5000)", 0)
                // One unit for 10000, of which half is in stock.
                .due("cash(0)", 24950).due("cash(-1)", -4950).due("cash(1)", 0)
                .due("sell(0, 0, 200)", 1).due("cash(0)", 24950 + 1980).due("cash(-1)", -4950 - 1980)
                .due("cash(0)", 26930).due("cash(-1)", -6930);
        new Script("the money of a house after a day").due("client()", 0).due("pay(0, 101000)", 101000)
                .due("buy(0, 5, 100000)", 0).due("cash(-1)", 200).due("sell(0, 5, 10000)", 1).due("cash(-1)", -99600)
                .due("price(5, 20000)", 10000).due("cash(-1)", -99600).due("pass(1)", 1).due("cash(-1)", 100400)
                .due("cash(0)", 101000 - 400);
    }

    private static void isRefused() {
        Script script = new Script("cash of nobody").due("cash(-1)", 0);
        script.refused("cash(0)", Script.INDEX);
        script.refused("cash(-2)", Script.INDEX);
        script.refused("cash(2147483647)", Script.INDEX);
        script.refused("cash(-2147483648)", Script.INDEX);
        script.due("client()", 0).due("cash(0)", 0);
        script.refused("cash(1)", Script.INDEX);
    }
}
