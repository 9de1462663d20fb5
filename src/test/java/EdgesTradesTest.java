/** What the document's "Trades" says of trades and of the house, sentence by sentence, at its edges. */
public final class EdgesTradesTest {
    public static void main(String[] args) {
        tradesAreNumberedFrom0();
        thereAreAtMost120Trades();
        unwoundTradesAreCounted();
        buyingBringsPartsThatAreCut();
        sellingBringsAnAmountThatIsCut();
        aSaleBringsAtMostABillion();
        costsOfBuyingGoByBands();
        costsOfSellingGoByBands();
        costsOfBalancingGoByBands();
        whatIsBoughtAndTheCostsAreTakenFromTheCash();
        whatIsSoldLessTheCostsComesToTheCash();
        aClientSellsWhatItHas();
        theHouseBuysAsManyUnitsAsAreNeeded();
        theHouseSellsAllWholeUnits();
        unitsAreSoldWhenADayEnds();
        theHousePaysThePriceOfThen();
        theMoneyOfTheHouseIs0AtFirst();
        Script.end();
    }

    /** "Trades are numbered from 0" */
    private static void tradesAreNumberedFrom0() {
        String[] calls = {"tradeOf(#, 6)", "complain(#)"};
        for (String call : calls) {
            Script script = new Script("the first trade").due("client()", 0).due("pay(0, 1000)", 1000);
            script.refused(call.replace("#", "0"), Script.INDEX);
            script.due("buy(0, 0, 10)", 0);
            for (String number : new String[] {"-1", "1", "119", "120", "2147483647", "-2147483648"}) {
                script.refused(call.replace("#", number), Script.INDEX);
            }
            script.make(call.replace("#", "0")).due("buy(0, 0, 10)", 1).make(call.replace("#", "1"));
            script.refused(call.replace("#", "2"), Script.INDEX);
        }
    }

    /** A run that leaves the client 0 with parts of fund 0, and so many trades. */
    private static Script trades(String about, int trades) {
        Script script = new Script(about).due("client()", 0).due("pay(0, 100000)", 100000);
        for (int trade = 0; trade < trades; trade++) {
            script.due("buy(0, 0, 10)", trade);
        }
        return script;
    }

    /** "at most 120" */
    private static void thereAreAtMost120Trades() {
        for (String last : new String[] {"buy(0, 1, 10)", "sell(0, 0, 1)"}) {
            Script script = trades("the 120th trade", 119);
            script.refused("tradeOf(119, 0)", Script.INDEX);
            script.due(last, 119).due("tradeOf(119, 6)", 1);
            script.refused("buy(0, 0, 10)", Script.STATE);
            script.refused("sell(0, 0, 1)", Script.STATE);
            script.refused("balance(0)", Script.STATE);
            script.refused("tradeOf(120, 0)", Script.INDEX);
            script.refused("complain(120)", Script.INDEX);
        }
        // A balance of 108 trades makes 6, and then 6 more are bought.
        Script script = trades("trades of a balance", 108);
        for (int fund = 0; fund < 6; fund++) {
            script.due("goal(0, " + fund + ", 10)", 10 * fund + 10);
        }
        script.due("balance(0)", 6);
        for (int trade = 114; trade < 120; trade++) {
            script.due("buy(0, 0, 10)", trade);
        }
        script.refused("buy(0, 0, 10)", Script.STATE);
    }

    private static void unwoundTradesAreCounted() {
        Script script = trades("120 trades that are unwound", 120);
        for (int trade = 119; trade >= 0; trade--) {
            script.due("complain(" + trade + ")", 0);
        }
        script.due("cash(0)", 100000).due("parts(0, 0)", 0).due("lot(0, 0, 0, 0)", -1);
        script.refused("buy(0, 0, 10)", Script.STATE);
        script.refused("balance(0)", Script.STATE);
        script.refused("complain(119)", Script.STATE);
        script.refused("complain(0)", Script.STATE);
        script.due("tradeOf(0, 6)", 0).due("tradeOf(119, 6)", 0);
    }

    /** "the parts that are the amount times 1000, by the price, cut" */
    private static void buyingBringsPartsThatAreCut() {
        int[] prices = {10, 10, 1000, 1001, 1001, 1999, 2000, 9999, 1000000, 1000000, 1000000};
        int[] amounts = {1, 10000000, 1, 1, 2, 1999, 1999, 9999, 999, 1000, 1999};
        int[] parts = {100, 1000000000, 1, 0, 1, 1000, 999, 1000, 0, 1, 1};
        for (int i = 0; i < prices.length; i++) {
            Script script = new Script("parts for " + amounts[i] + " at " + prices[i]).due("client()", 0)
                    .due("pay(0, 10000000)", 10000000).due("pay(0, 20000)", 10020000)
                    .make("price(2, " + prices[i] + ")");
            String buy = "buy(0, 2, " + amounts[i] + ")";
            if (parts[i] == 0) {
                script.refused(buy, Script.STATE);
            } else {
                script.due(buy, 0).due("tradeOf(0, 2)", parts[i]).due("parts(0, 2)", parts[i])
                        .due("tradeOf(0, 3)", amounts[i]);
            }
        }
    }

    /** "the amount that is the parts times the price, by 1000, cut" */
    private static void sellingBringsAnAmountThatIsCut() {
        int[] prices = {10, 10, 10, 999, 1000, 1001, 1999, 2000, 1000000, 333, 333};
        int[] parts = {99, 100, 199, 1, 1, 1, 1, 1, 1, 3, 4};
        int[] amounts = {0, 1, 1, 0, 1, 1, 1, 2, 1000, 0, 1};
        for (int i = 0; i < prices.length; i++) {
            Script script = new Script(parts[i] + " parts at " + prices[i]).due("client()", 0).due("pay(0, 1000)", 1000)
                    .due("price(2, 1000)", 10000).due("buy(0, 2, 900)", 0).make("price(2, " + prices[i] + ")");
            String sell = "sell(0, 2, " + parts[i] + ")";
            if (amounts[i] == 0) {
                script.refused(sell, Script.STATE);
            } else {
                script.due(sell, 1).due("tradeOf(1, 3)", amounts[i]).due("tradeOf(1, 2)", -parts[i]);
            }
        }
    }

    /** "or it would bring no amount, or one above 1000000000" */
    private static void aSaleBringsAtMostABillion() {
        Script script = new Script("about a billion").due("client()", 0).due("pay(0, 10000000)", 10000000)
                .due("pay(0, 20000)", 10020000).due("price(5, 10)", 10000).due("buy(0, 5, 10000000)", 0)
                .due("parts(0, 5)", 1000000000).due("price(5, 1001)", 10);
        // 999001000 * 1001 is 1000000001000: one cent too much, and just so.
        script.refused("sell(0, 5, 999001000)", Script.STATE);
        script.due("price(5, 1003)", 1001);
        // 997008974 * 1003 is 1000000000922: what is cut is not looked at; one part more is too much.
        script.refused("sell(0, 5, 997008975)", Script.STATE);
        script.due("sell(0, 5, 997008974)", 1).due("tradeOf(1, 3)", 1000000000).due("tradeOf(1, 4)", 2000000);
        Script most = new Script("all parts at once").due("client()", 0).due("pay(0, 10000000)", 10000000)
                .due("pay(0, 20000)", 10020000).due("price(5, 10)", 10000).due("buy(0, 5, 10000000)", 0)
                .due("price(5, 1000)", 10).due("sell(0, 5, 1000000000)", 1).due("tradeOf(1, 3)", 1000000000)
                .due("parts(0, 5)", 0);
        most.refused("sell(0, 5, 1)", Script.STATE);
    }

    private static final int[] AMOUNTS = {1, 99, 100, 199, 9899, 9900, 9999, 10000, 10001, 10199, 10200, 99799, 99800,
        99999, 100000, 100001, 100499, 100500, 9999999, 10000000};
    private static final int[] COSTS = {0, 0, 1, 1, 98, 99, 99, 50, 50, 50, 51, 498, 499,
        499, 200, 200, 200, 201, 19999, 20000};

    /** "the amount times 100, if it is below 10000, 50, if it is below 100000, otherwise 20, by 10000, cut" */
    private static void costsOfBuyingGoByBands() {
        for (int i = 0; i < AMOUNTS.length; i++) {
            int all = AMOUNTS[i] + COSTS[i];
            Script script = rich("the costs of buying for " + AMOUNTS[i]).due("price(1, 10)", 10000)
                    .due("buy(0, 1, " + AMOUNTS[i] + ")", 0).due("tradeOf(0, 4)", COSTS[i])
                    .due("cash(0)", 20000000 - all).due("lot(0, 1, 0, 2)", all);
            script.due("tradeOf(0, 2)", AMOUNTS[i] * 100L);
        }
    }

    /** 1000000 parts of fund 1 at a price of 1000. */
    private static void costsOfSellingGoByBands() {
        for (int i = 0; i < AMOUNTS.length; i++) {
            rich("the costs of a sale of " + AMOUNTS[i]).due("price(1, 1000)", 10000).due("buy(0, 1, 10000000)", 0)
                    .due("sell(0, 1, " + AMOUNTS[i] + ")", 1).due("tradeOf(1, 3)", AMOUNTS[i])
                    .due("tradeOf(1, 4)", COSTS[i]).due("cash(0)", 20000000 - 10020000 + AMOUNTS[i] - COSTS[i]);
        }
    }

    /** Half of a wealth of twice the amount. */
    private static void costsOfBalancingGoByBands() {
        for (int i = 1; i < AMOUNTS.length; i++) {
            Script script = new Script("the costs of balancing for " + AMOUNTS[i]).due("client()", 0)
                    .due("pay(0, " + AMOUNTS[i] + ")", AMOUNTS[i]).due("pay(0, " + AMOUNTS[i] + ")", 2 * AMOUNTS[i])
                    .due("price(1, 1000)", 10000).due("goal(0, 1, 50)", 50).due("balance(0)", 1)
                    .due("tradeOf(0, 3)", AMOUNTS[i]).due("tradeOf(0, 4)", COSTS[i])
                    .due("cash(0)", AMOUNTS[i] - COSTS[i]);
            script.due("goal(0, 1, 0)", 0).due("balance(0)", 1).due("tradeOf(1, 3)", AMOUNTS[i])
                    .due("tradeOf(1, 4)", COSTS[i]).due("cash(0)", 2 * AMOUNTS[i] - 2 * COSTS[i]);
        }
    }

    private static Script rich(String about) {
        return new Script(about).due("client()", 0).due("pay(0, 10000000)", 10000000)
                .due("pay(0, 10000000)", 20000000);
    }

    /** "What is bought and the costs are taken from the cash"; refused if they "are more than the cash" */
    private static void whatIsBoughtAndTheCostsAreTakenFromTheCash() {
        int[] amounts = {10, 99, 100, 9999, 10000, 99999, 100000};
        int[] costs = {0, 0, 1, 99, 50, 499, 200};
        for (int i = 0; i < amounts.length; i++) {
            int all = amounts[i] + costs[i];
            String buy = "buy(0, 4, " + amounts[i] + ")";
            Script script = new Script("just cash for " + amounts[i]).due("client()", 0)
                    .due("pay(0, " + (all - 1) + ")", all - 1);
            script.refused(buy, Script.STATE);
            script.due("pay(0, 1)", all).due(buy, 0).due("cash(0)", 0);
            new Script("more cash than for " + amounts[i]).due("client()", 0)
                    .due("pay(0, " + (all + 1) + ")", all + 1).due(buy, 0).due("cash(0)", 1);
        }
    }

    /** "what is sold, less the costs, comes to it" */
    private static void whatIsSoldLessTheCostsComesToTheCash() {
        new Script("what a sale brings").due("client()", 0).due("pay(0, 10)", 10).due("buy(0, 0, 10)", 0)
                .due("cash(0)", 0).due("price(0, 1000)", 10000).due("sell(0, 0, 1)", 1).due("cash(0)", 1);
        new Script("what a sale brings at the highest price").due("client()", 0).due("pay(0, 10050)", 10050)
                .due("buy(0, 0, 10000)", 0).due("price(0, 1000000)", 10000).due("sell(0, 0, 1000)", 1)
                .due("cash(0)", 998000);
    }

    /** "if the client has less" */
    private static void aClientSellsWhatItHas() {
        Script script = new Script("all parts, and one more").due("client()", 0).due("client()", 1)
                .due("pay(0, 10000)", 10000).due("pay(1, 10000)", 10000);
        script.refused("sell(0, 0, 1)", Script.STATE);
        script.due("buy(1, 0, 5000)", 0).due("buy(0, 1, 3000)", 1);
        script.refused("sell(0, 0, 1)", Script.STATE);
        script.due("buy(0, 0, 70)", 2);
        script.refused("sell(0, 0, 8)", Script.STATE);
        script.due("sell(0, 0, 7)", 3);
        script.refused("sell(0, 0, 1)", Script.STATE);
        script.due("complain(3)", 0).due("sell(0, 0, 7)", 4).due("parts(0, 0)", 0);
    }

    /** "If a client buys more than the stock, the house buys as many units as are needed" */
    private static void theHouseBuysAsManyUnitsAsAreNeeded() {
        int[] parts = {299, 300, 301, 1299, 1300, 1301, 2300, 2301};
        int[] units = {0, 0, 1, 1, 1, 2, 2, 3};
        for (int i = 0; i < parts.length; i++) {
            // 700 parts of one unit leave 300 in stock.
            new Script(parts[i] + " parts, and 300 in stock").due("client()", 0).due("client()", 1)
                    .due("pay(0, 100000)", 100000).due("pay(1, 100000)", 100000).due("price(3, 1000)", 10000)
                    .due("buy(0, 3, 700)", 0).due("units(3)", 1).due("parts(-1, 3)", 300).due("cash(-1)", 707 - 1000)
                    .due("price(3, 2000)", 1000).due("buy(1, 3, " + 2 * parts[i] + ")", 1)
                    .due("tradeOf(1, 2)", parts[i])
                    .due("units(3)", 1 + units[i]).due("parts(-1, 3)", 300 + 1000 * units[i] - parts[i])
                    .due("cash(-1)", 707 - 1000 + 2 * parts[i] + 2 * parts[i] / 100 - 2000 * units[i])
                    .due("units(2)", 0).due("units(4)", 0);
        }
    }

    /** "it sells all whole units of which it has the parts in stock" */
    private static void theHouseSellsAllWholeUnits() {
        int[] sold = {1, 699, 700, 701, 1699, 1700, 1701, 2699, 2700};
        int[] units = {0, 0, 1, 1, 1, 2, 2, 2, 3};
        for (int i = 0; i < sold.length; i++) {
            // 2700 parts of 3 units leave 300 in stock.
            int stock = 300 + sold[i];
            long money = 2727 - 3000 - (sold[i] - sold[i] / 100);
            new Script(stock + " parts in stock").due("client()", 0).due("pay(0, 100000)", 100000)
                    .due("price(3, 1000)", 10000).due("buy(0, 3, 2700)", 0).due("units(3)", 3)
                    .due("sell(0, 3, " + sold[i] + ")", 1).due("parts(-1, 3)", stock).due("units(3)", 3)
                    .due("cash(-1)", money).due("pass(1)", 1).due("units(3)", 3 - units[i])
                    .due("parts(-1, 3)", stock - 1000 * units[i]).due("cash(-1)", money + 1000 * units[i]);
        }
    }

    /** "when a day ends": neither before, nor twice, and of each fund. */
    private static void unitsAreSoldWhenADayEnds() {
        Script script = new Script("units of all funds").due("client()", 0).due("pay(0, 1000000)", 1000000);
        for (int fund = 0; fund < 6; fund++) {
            script.due("buy(0, " + fund + ", 20000)", 2 * fund).due("sell(0, " + fund + ", 1500)", 2 * fund + 1);
        }
        for (int fund = 0; fund < 6; fund++) {
            script.due("units(" + fund + ")", 2).due("parts(-1, " + fund + ")", 1500);
        }
        script.due("cash(-1)", 6 * (100 - 14925)).due("price(5, 20000)", 10000).due("pass(1)", 1)
                .due("cash(-1)", 6 * (100 - 14925) + 5 * 10000 + 20000);
        for (int fund = 0; fund < 6; fund++) {
            script.due("units(" + fund + ")", 1).due("parts(-1, " + fund + ")", 500).due("parts(0, " + fund + ")", 500);
        }
        script.due("pass(400)", 401).due("cash(-1)", 6 * (100 - 14925) + 5 * 10000 + 20000).due("units(5)", 1);
        new Script("nothing in stock").due("client()", 0).due("pay(0, 20000)", 20000).due("buy(0, 0, 10000)", 0)
                .due("parts(-1, 0)", 0).due("pass(1)", 1).due("units(0)", 1).due("parts(-1, 0)", 0).due("cash(-1)", 50);
    }

    /** "it pays and gets the price of then for units" */
    private static void theHousePaysThePriceOfThen() {
        new Script("the price of then").due("client()", 0).due("pay(0, 100000)", 100000).due("price(0, 2000)", 10000)
                .due("buy(0, 0, 2000)", 0).due("cash(-1)", 20).due("price(0, 1000)", 2000)
                .due("buy(0, 0, 1000)", 1).due("cash(-1)", 20 + 10).due("price(0, 5000)", 1000)
                .due("sell(0, 0, 2000)", 2).due("cash(-1)", 30 - 9950).due("price(0, 10)", 5000)
                .due("cash(-1)", 30 - 9950).due("pass(1)", 1).due("cash(-1)", 30 - 9950 + 20)
                .due("price(0, 1000000)", 10).due("cash(-1)", 30 - 9950 + 20).due("pass(1)", 2)
                .due("cash(-1)", 30 - 9950 + 20);
    }

    /** "The money of the house is 0 at first; ... (taxes are not among it)" */
    private static void theMoneyOfTheHouseIs0AtFirst() {
        new Script("the money of the house").due("cash(-1)", 0).due("client()", 0).due("cash(-1)", 0)
                .due("pay(0, 50)", 50).due("cash(-1)", 0).due("price(0, 1000)", 10000).due("cash(-1)", 0)
                .due("buy(0, 0, 50)", 0).due("cash(-1)", 50 - 1000).due("price(0, 1080)", 1000)
                .due("sell(0, 0, 50)", 1).due("cash(-1)", 50 - 1000 - 54).due("pass(359)", 359)
                .due("cash(-1)", 50 - 1000 - 54 + 1080)
                // The client pays a tax of 1, and gets it back, and the house knows nothing of it.
                .due("pass(1)", 360).due("cash(0)", 53).due("cash(-1)", 50 - 1000 - 54 + 1080)
                .due("complain(1)", 1).due("cash(0)", 0).due("cash(-1)", 50 - 1000 + 1080 - 1080)
                .due("complain(0)", 0).due("cash(0)", 50).due("cash(-1)", -1000).due("pass(1)", 361)
                .due("cash(-1)", 80).due("pay(0, -50)", 0).due("cash(-1)", 80);
    }
}
