/** Promise 7: sell sells parts, and returns the number of the trade. */
public final class Promise07SellTest {
    public static void main(String[] args) {
        costsByBands();
        cutsAmounts();
        fillsTheStock();
        isRefused();
        bringsAtMostABillion();
        takesTheEarliestLots();
        gainsByYears();
        Script.end();
    }

    /** At a price of 1000 as many cents come as there are parts. */
    private static void costsByBands() {
        int[] amounts = {1, 99, 100, 9999, 10000, 99999, 100000, 100500, 10000000, 1000000000};
        int[] costs = {0, 0, 1, 99, 50, 499, 200, 201, 20000, 2000000};
        Script script = new Script("costs of selling").due("client()", 0).due("pay(0, 10000000)", 10000000)
                .due("pay(0, 10000000)", 20000000).due("pay(0, 10000000)", 30000000).due("price(2, 10)", 10000)
                .due("buy(0, 2, 10000000)", 0).due("buy(0, 2, 10000000)", 1).due("price(2, 1000)", 10);
        long cash = 30000000 - 2 * 10020000;
        long house = 2 * 10020000 - 20000000;
        for (int i = 0; i < amounts.length; i++) {
            script.due("sell(0, 2, " + amounts[i] + ")", i + 2);
            script.due("tradeOf(" + (i + 2) + ", 2)", -amounts[i]);
            script.due("tradeOf(" + (i + 2) + ", 3)", amounts[i]).due("tradeOf(" + (i + 2) + ", 4)", costs[i]);
            cash += amounts[i] - costs[i];
            house -= amounts[i] - costs[i];
            script.due("cash(0)", cash).due("cash(-1)", house);
        }
    }

    private static void cutsAmounts() {
        Script script = new Script("amounts of sales").due("client()", 0).due("pay(0, 20000)", 20000)
                .due("buy(0, 0, 10000)", 0).due("price(0, 9999)", 10000)
                .due("sell(0, 0, 1)", 1).due("tradeOf(1, 3)", 9)
                .due("sell(0, 0, 999)", 2).due("tradeOf(2, 3)", 9989).due("tradeOf(2, 4)", 99)
                .due("parts(0, 0)", 0).due("cash(0)", 20000 - 10050 + 9 + 9890);
        script.refused("sell(0, 0, 1)", Script.STATE);
    }

    private static void fillsTheStock() {
        new Script("parts sold").due("client()", 0).due("client()", 1).due("pay(0, 100000)", 100000)
                .due("pay(1, 100000)", 100000).due("buy(0, 4, 20000)", 0).due("units(4)", 2)
                .due("parts(-1, 4)", 0).due("sell(0, 4, 1500)", 1).due("parts(0, 4)", 500)
                .due("parts(-1, 4)", 1500).due("units(4)", 2).due("cash(-1)", 100 - 14925)
                // What is in stock is sold on to another client.
                .due("buy(1, 4, 15000)", 2).due("units(4)", 2).due("parts(-1, 4)", 0)
                .due("tradeOf(1, 0)", 0).due("tradeOf(1, 1)", 4).due("tradeOf(1, 5)", 0).due("tradeOf(1, 6)", 1);
    }

    private static void isRefused() {
        Script script = new Script("wrong selling").due("client()", 0).due("client()", 1)
                .due("pay(0, 100000)", 100000).due("pay(1, 100000)", 100000)
                .due("buy(0, 0, 10000)", 0).due("buy(1, 0, 20000)", 1).due("buy(0, 1, 30000)", 2);
        script.refused("sell(2, 0, 1)", Script.INDEX);
        script.refused("sell(-1, 0, 1)", Script.INDEX);
        script.refused("sell(0, 6, 1)", Script.INDEX);
        script.refused("sell(0, -1, 1)", Script.INDEX);
        script.refused("sell(0, 6, 0)", Script.INDEX);
        script.refused("sell(2, 0, 1000000001)", Script.INDEX);
        script.refused("sell(0, 0, 0)", Script.ARGUMENT);
        script.refused("sell(0, 0, -1)", Script.ARGUMENT);
        script.refused("sell(0, 0, 1000000001)", Script.ARGUMENT);
        script.refused("sell(0, 0, 2147483647)", Script.ARGUMENT);
        script.refused("sell(0, 0, -2147483648)", Script.ARGUMENT);
        script.refused("sell(0, 0, 1001)", Script.STATE);
        script.refused("sell(0, 0, 1000000000)", Script.STATE);
        script.refused("sell(0, 2, 1)", Script.STATE);
        script.due("price(0, 10)", 10000);
        script.refused("sell(0, 0, 99)", Script.STATE);
        script.due("sell(0, 0, 100)", 3).due("tradeOf(3, 3)", 1).due("tradeOf(3, 4)", 0);
        Script full = new Script("120 trades with sales").due("client()", 0).due("pay(0, 10050)", 10050)
                .due("buy(0, 0, 10000)", 0);
        for (int trade = 1; trade < 120; trade++) {
            full.due("sell(0, 0, 1)", trade);
        }
        full.refused("sell(0, 0, 1)", Script.STATE);
        full.refused("sell(0, 0, 0)", Script.ARGUMENT);
        full.refused("tradeOf(120, 0)", Script.INDEX);
    }

    private static void bringsAtMostABillion() {
        Script script = new Script("the greatest sale").due("client()", 0).due("pay(0, 10000000)", 10000000)
                .due("pay(0, 20000)", 10020000).due("price(5, 10)", 10000).due("buy(0, 5, 10000000)", 0)
                .due("cash(0)", 0).due("price(5, 1001)", 10);
        script.refused("sell(0, 5, 1000000000)", Script.STATE);
        script.due("price(5, 1000000)", 1001);
        script.refused("sell(0, 5, 1000001)", Script.STATE);
        script.due("sell(0, 5, 1000000)", 1).due("tradeOf(1, 3)", 1000000000).due("cash(0)", 998000000)
                .due("price(5, 1000)", 1000000).due("sell(0, 5, 999000000)", 2)
                .due("tradeOf(2, 2)", -999000000).due("tradeOf(2, 3)", 999000000);
    }

    /** Lots of 1000 parts for 10050, 2000 for 20100 and 1000 for 40200. */
    private static void takesTheEarliestLots() {
        new Script("lots that sales take from").due("client()", 0).due("pay(0, 100000)", 100000)
                .due("buy(0, 0, 10000)", 0).due("buy(0, 0, 20000)", 1).due("price(0, 40000)", 10000)
                .due("buy(0, 0, 40000)", 2).due("price(0, 10000)", 40000)
                // 333 of 1000 parts: 10050 * 333 / 1000 = 3346.65.
                .due("sell(0, 0, 333)", 3).due("lot(0, 0, 0, 0)", 0).due("lot(0, 0, 0, 1)", 667)
                .due("lot(0, 0, 0, 2)", 6704).due("year(0, 0, 0)", 3330 - 33 - 3346)
                // 333 of 667 that are left: 6704 * 333 / 667 = 3346.97.
                .due("sell(0, 0, 333)", 4).due("lot(0, 0, 0, 1)", 334).due("lot(0, 0, 0, 2)", 3358)
                // The other 334, and 1000 of the next lot's 2000.
                .due("sell(0, 0, 1334)", 5).due("lot(0, 0, 0, 0)", 1).due("lot(0, 0, 0, 1)", 1000)
                .due("lot(0, 0, 0, 2)", 10050).due("lot(0, 0, 1, 0)", 2).due("lot(0, 0, 1, 1)", 1000)
                .due("lot(0, 0, 1, 2)", 40200).due("lot(0, 0, 2, 0)", -1)
                .due("year(0, 0, 0)", (3297 - 3346) * 2 + (13340 - 66 - 3358 - 10050))
                .due("sell(0, 0, 2000)", 6).due("lot(0, 0, 0, 0)", -1)
                .due("year(0, 0, 0)", (3297 - 3346) * 2 + (13340 - 66 - 3358 - 10050) + (20000 - 100 - 50250));
    }

    private static void gainsByYears() {
        new Script("gains of years").due("client()", 0).due("client()", 1).due("pay(0, 30150)", 30150)
                .due("buy(0, 0, 30000)", 0).due("price(0, 20000)", 10000).due("sell(0, 0, 1000)", 1)
                .due("year(0, 0, 0)", 19900 - 10050).due("pass(359)", 359).due("sell(0, 0, 1000)", 2)
                .due("tradeOf(2, 5)", 359).due("year(0, 0, 0)", 2 * (19900 - 10050)).due("pass(1)", 360)
                .due("sell(0, 0, 1000)", 3).due("tradeOf(3, 5)", 360).due("year(0, 0, 0)", 2 * (19900 - 10050))
                .due("year(0, 1, 0)", 19900 - 10050).due("year(1, 0, 0)", 0).due("year(0, 2, 0)", 0);
    }
}
