/** Promise 6: buy buys for an amount, and returns the number of the trade. */
public final class Promise06BuyTest {
    public static void main(String[] args) {
        costsByBands();
        cutsParts();
        makesTheHouseBuyUnits();
        isRefused();
        takesAllTheCash();
        makesAtMost120();
        Script.end();
    }

    private static void costsByBands() {
        int[] amounts = {99, 100, 199, 9999, 10000, 10199, 99999, 100000, 100499, 100500, 10000000};
        int[] costs = {0, 1, 1, 99, 50, 50, 499, 200, 200, 201, 20000};
        Script script = new Script("costs of buying").due("client()", 0).due("pay(0, 10000000)", 10000000)
                .due("pay(0, 10000000)", 20000000);
        long cash = 20000000;
        for (int i = 0; i < amounts.length; i++) {
            script.due("buy(0, 3, " + amounts[i] + ")", i);
            script.due("tradeOf(" + i + ", 3)", amounts[i]).due("tradeOf(" + i + ", 4)", costs[i]);
            cash -= amounts[i] + costs[i];
            script.due("cash(0)", cash);
        }
    }

    private static void cutsParts() {
        new Script("parts bought").due("client()", 0).due("pay(0, 10000000)", 10000000)
                .due("pay(0, 10000000)", 20000000)
                .due("price(1, 7777)", 10000).due("buy(0, 1, 10000)", 0).due("parts(0, 1)", 1285)
                .due("tradeOf(0, 2)", 1285).due("tradeOf(0, 3)", 10000)
                .due("price(2, 10)", 10000).due("buy(0, 2, 10000000)", 1).due("parts(0, 2)", 1000000000)
                .due("price(4, 1000000)", 10000).due("buy(0, 4, 1999)", 2).due("parts(0, 4)", 1)
                .due("parts(0, 0)", 0).due("lot(0, 1, 0, 1)", 1285).due("lot(0, 1, 0, 2)", 10050)
                .due("tradeOf(2, 0)", 0).due("tradeOf(2, 1)", 4).due("tradeOf(2, 5)", 0).due("tradeOf(2, 6)", 1);
    }

    private static void makesTheHouseBuyUnits() {
        new Script("units for parts bought").due("client()", 0).due("client()", 1)
                .due("pay(0, 100000)", 100000).due("pay(1, 100000)", 100000)
                .due("buy(0, 0, 25000)", 0).due("units(0)", 3).due("parts(-1, 0)", 500).due("cash(-1)", -4875)
                // Just the stock: no unit is needed.
                .due("buy(1, 0, 5000)", 1).due("units(0)", 3).due("parts(-1, 0)", 0).due("cash(-1)", 175)
                .due("buy(1, 0, 10)", 2).due("units(0)", 4).due("parts(-1, 0)", 999).due("cash(-1)", -9815)
                // One part more than the stock, at another price.
                .due("price(0, 1000)", 10000)
                .due("buy(0, 0, 1000)", 3).due("units(0)", 5).due("parts(-1, 0)", 999).due("cash(-1)", -9805)
                .due("buy(0, 1, 10000)", 4).due("units(1)", 1).due("parts(-1, 1)", 0).due("cash(-1)", -9755)
                .due("units(0)", 5).due("parts(0, 0)", 3500).due("parts(1, 0)", 501);
    }

    private static void isRefused() {
        Script script = new Script("wrong buying").due("client()", 0).due("pay(0, 10000000)", 10000000);
        script.refused("buy(1, 0, 100)", Script.INDEX);
        script.refused("buy(-1, 0, 100)", Script.INDEX);
        script.refused("buy(0, 6, 100)", Script.INDEX);
        script.refused("buy(0, -1, 100)", Script.INDEX);
        script.refused("buy(0, 6, 0)", Script.INDEX);
        script.refused("buy(1, 0, 10000001)", Script.INDEX);
        script.refused("buy(0, 0, 0)", Script.ARGUMENT);
        script.refused("buy(0, 0, -1)", Script.ARGUMENT);
        script.refused("buy(0, 0, 10000001)", Script.ARGUMENT);
        script.refused("buy(0, 0, 2147483647)", Script.ARGUMENT);
        script.refused("buy(0, 0, -2147483648)", Script.ARGUMENT);
        script.refused("buy(0, 0, 9)", Script.STATE);
        script.refused("buy(0, 0, 1)", Script.STATE);
        // 10000000 with costs of 20000 is more than the cash.
        script.refused("buy(0, 0, 10000000)", Script.STATE);
        script.due("buy(0, 0, 10)", 0).due("tradeOf(0, 2)", 1);
        script.due("price(0, 1000000)", 10000);
        script.refused("buy(0, 0, 999)", Script.STATE);
        script.due("buy(0, 0, 1000)", 1);
    }

    private static void takesAllTheCash() {
        Script script = new Script("all the cash").due("client()", 0).due("pay(0, 10049)", 10049);
        script.refused("buy(0, 0, 10000)", Script.STATE);
        script.due("pay(0, 1)", 10050).due("buy(0, 0, 10000)", 0).due("cash(0)", 0);
        script.refused("buy(0, 0, 10)", Script.STATE);
        script.due("client()", 1).due("pay(1, 10)", 10).due("buy(1, 0, 10)", 1).due("cash(1)", 0);
    }

    private static void makesAtMost120() {
        Script script = new Script("120 trades").due("client()", 0).due("pay(0, 10000)", 10000);
        for (int trade = 0; trade < 120; trade++) {
            script.due("buy(0, 0, 10)", trade);
        }
        script.refused("buy(0, 0, 10)", Script.STATE);
        script.refused("buy(0, 0, 0)", Script.ARGUMENT);
        script.refused("buy(0, 6, 10)", Script.INDEX);
        script.refused("sell(0, 0, 1)", Script.STATE);
        // A trade that was unwound keeps its number.
        script.due("complain(119)", 0);
        script.refused("buy(0, 0, 10)", Script.STATE);
        script.refused("tradeOf(120, 0)", Script.INDEX);
        script.due("tradeOf(119, 6)", 0).due("parts(0, 0)", 119);
    }
}
