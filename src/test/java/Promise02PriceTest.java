/** Promise 2: price sets the price of a fund, and returns what it was. */
public final class Promise02PriceTest {
    public static void main(String[] args) {
        setsEachFund();
        isRefused();
        countsForTradesAndWealth();
        Script.end();
    }

    private static void setsEachFund() {
        Script script = new Script("prices of all funds");
        for (int fund = 0; fund < 6; fund++) {
            script.due("price(" + fund + ", " + (fund + 50) + ")", 10000);
        }
        for (int fund = 0; fund < 6; fund++) {
            script.due("price(" + fund + ", 10)", fund + 50);
            script.due("price(" + fund + ", 1000000)", 10);
            script.due("price(" + fund + ", 1000000)", 1000000);
        }
    }

    private static void isRefused() {
        Script script = new Script("wrong prices").due("client()", 0);
        script.refused("price(-1, 10000)", Script.INDEX);
        script.refused("price(6, 10000)", Script.INDEX);
        script.refused("price(2147483647, 10000)", Script.INDEX);
        script.refused("price(-2147483648, 10000)", Script.INDEX);
        script.refused("price(0, 9)", Script.ARGUMENT);
        script.refused("price(5, 0)", Script.ARGUMENT);
        script.refused("price(5, -10)", Script.ARGUMENT);
        script.refused("price(5, 1000001)", Script.ARGUMENT);
        script.refused("price(5, 2147483647)", Script.ARGUMENT);
        script.refused("price(5, -2147483648)", Script.ARGUMENT);
        script.refused("price(6, 9)", Script.INDEX);
        script.refused("price(-1, 1000001)", Script.INDEX);
    }

    private static void countsForTradesAndWealth() {
        new Script("the price of one fund").due("client()", 0).due("pay(0, 10050)", 10050)
                .due("price(1, 5000)", 10000).due("buy(0, 1, 10000)", 0).due("tradeOf(0, 2)", 2000)
                .due("price(0, 20)", 10000).due("wealth(0)", 10000)
                .due("price(1, 6000)", 5000).due("wealth(0)", 12000)
                .due("tradeOf(0, 3)", 10000);
    }
}
