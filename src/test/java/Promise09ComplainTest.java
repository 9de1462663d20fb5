/** Promise 9: complain unwinds a trade, and returns what comes back of taxes. */
public final class Promise09ComplainTest {
    public static void main(String[] args) {
        unwindsBuying();
        unwindsASale();
        buysUnitsForASale();
        leavesADebt();
        isRefusedIfPartsLack();
        looksAtOneHoldingAlone();
        findsLotsAnew();
        paysTaxesBack();
        takesTaxes();
        goesThroughTheYears();
        leavesOthersAlone();
        leavesTheYearThatHasNotEnded();
        isRefused();
        Script.end();
    }

    private static void unwindsBuying() {
        new Script("buying unwound").due("client()", 0).due("pay(0, 10050)", 10050).due("buy(0, 0, 10000)", 0)
                .due("cash(-1)", 50).due("price(0, 30000)", 10000).due("complain(0)", 0).due("cash(0)", 10050)
                .due("parts(0, 0)", 0).due("parts(-1, 0)", 1000).due("units(0)", 1).due("cash(-1)", -10000)
                .due("lot(0, 0, 0, 0)", -1).due("tradeOf(0, 6)", 0).due("tradeOf(0, 0)", 0)
                .due("tradeOf(0, 2)", 1000).due("tradeOf(0, 3)", 10000).due("tradeOf(0, 4)", 50)
                .refused("complain(0)", Script.STATE)
                // The house sells the unit at the price of then.
                .due("pass(1)", 1).due("cash(-1)", 20000).due("units(0)", 0)
                .due("price(0, 10000)", 30000).due("buy(0, 0, 10000)", 1).due("lot(0, 0, 0, 0)", 1);
    }

    private static void unwindsASale() {
        new Script("a sale unwound").due("client()", 0).due("pay(0, 10050)", 10050).due("buy(0, 0, 10000)", 0)
                .due("price(0, 20000)", 10000).due("sell(0, 0, 400)", 1).due("cash(0)", 7920)
                .due("cash(-1)", 50 - 7920).due("parts(-1, 0)", 400).due("year(0, 0, 0)", 7920 - 4020)
                .due("price(0, 30000)", 20000).due("complain(1)", 0).due("cash(0)", 0).due("cash(-1)", 50)
                .due("parts(0, 0)", 1000).due("parts(-1, 0)", 0).due("units(0)", 1).due("year(0, 0, 0)", 0)
                .due("lot(0, 0, 0, 1)", 1000).due("lot(0, 0, 0, 2)", 10050).due("tradeOf(1, 6)", 0)
                .due("tradeOf(1, 2)", -400).due("tradeOf(0, 6)", 1)
                .refused("complain(1)", Script.STATE);
    }

    private static void buysUnitsForASale() {
        new Script("a sale unwound after the day").due("client()", 0).due("pay(0, 10050)", 10050)
                .due("buy(0, 0, 10000)", 0).due("sell(0, 0, 1000)", 1).due("cash(-1)", -9900).due("pass(1)", 1)
                .due("cash(-1)", 100).due("units(0)", 0).due("price(0, 20000)", 10000).due("complain(1)", 0)
                .due("cash(0)", 0).due("parts(0, 0)", 1000).due("units(0)", 1).due("parts(-1, 0)", 0)
                .due("cash(-1)", 100 + 9950 - 20000);
        new Script("a sale unwound with a part of the stock").due("client()", 0).due("client()", 1)
                .due("pay(0, 100000)", 100000).due("pay(1, 100000)", 100000)
                .due("buy(0, 0, 25000)", 0).due("sell(0, 0, 2500)", 1).due("pass(1)", 1).due("parts(-1, 0)", 0)
                .due("buy(1, 0, 3000)", 2).due("parts(-1, 0)", 700).due("units(0)", 1).due("complain(1)", 0)
                .due("units(0)", 3).due("parts(-1, 0)", 200).due("parts(0, 0)", 2500);
    }

    private static void leavesADebt() {
        Script script = new Script("a debt by a complaint").due("client()", 0).due("pay(0, 10050)", 10050)
                .due("buy(0, 0, 10000)", 0).due("sell(0, 0, 1000)", 1).due("pay(0, -9950)", 0)
                .due("complain(1)", 0).due("cash(0)", -9950).due("wealth(0)", 50);
        script.refused("buy(0, 1, 10)", Script.STATE);
        script.refused("pay(0, -1)", Script.STATE);
        script.due("sell(0, 0, 1000)", 2).due("cash(0)", 0);
    }

    private static void isRefusedIfPartsLack() {
        new Script("a sale between two lots").due("client()", 0).due("pay(0, 100000)", 100000)
                .due("buy(0, 0, 10000)", 0).due("sell(0, 0, 1000)", 1).due("buy(0, 0, 10000)", 2)
                // At the sale there would be no parts, though there are 1000 later.
                .refused("complain(0)", Script.STATE)
                .due("complain(2)", 0).due("parts(0, 0)", 0)
                .refused("complain(0)", Script.STATE)
                .due("complain(1)", 0).due("complain(0)", 0).due("cash(0)", 100000);
        new Script("a sale of two lots").due("client()", 0).due("pay(0, 100000)", 100000)
                .due("buy(0, 0, 10000)", 0).due("buy(0, 0, 10000)", 1).due("sell(0, 0, 1500)", 2)
                .due("buy(0, 0, 50000)", 3)
                .refused("complain(0)", Script.STATE)
                .refused("complain(1)", Script.STATE)
                .due("complain(3)", 0);
        // Just enough stands.
        new Script("a sale of one lot of two").due("client()", 0).due("pay(0, 100000)", 100000)
                .due("buy(0, 0, 10000)", 0).due("buy(0, 0, 10000)", 1).due("sell(0, 0, 1000)", 2)
                .due("complain(0)", 0).due("parts(0, 0)", 0)
                .refused("complain(1)", Script.STATE);
        new Script("one part lacks").due("client()", 0).due("pay(0, 100000)", 100000)
                .due("buy(0, 0, 10000)", 0).due("buy(0, 0, 10000)", 1).due("sell(0, 0, 1001)", 2)
                .refused("complain(0)", Script.STATE);
        new Script("the second of two sales lacks parts").due("client()", 0).due("pay(0, 100000)", 100000)
                .due("buy(0, 0, 10000)", 0).due("sell(0, 0, 500)", 1).due("buy(0, 0, 10000)", 2)
                .due("sell(0, 0, 1200)", 3)
                .refused("complain(2)", Script.STATE)
                .due("complain(1)", 0).refused("complain(2)", Script.STATE).due("complain(3)", 0)
                .due("complain(2)", 0).due("complain(0)", 0);
    }

    /** Parts of another fund, and of another client, do not help; sales of theirs do not hinder. */
    private static void looksAtOneHoldingAlone() {
        new Script("parts of others").due("client()", 0).due("client()", 1).due("pay(0, 100000)", 100000)
                .due("pay(1, 100000)", 100000).due("buy(0, 0, 10000)", 0).due("buy(0, 1, 10000)", 1)
                .due("buy(1, 0, 10000)", 2).due("sell(0, 0, 1000)", 3)
                .refused("complain(0)", Script.STATE)
                .due("complain(1)", 0).due("complain(2)", 0).due("cash(1)", 100000);
    }

    /** Of the lots 1000 for 10050, 1000 for 20100 and 1000 for 30150 two were sold. */
    private static void findsLotsAnew() {
        Script script = new Script("lots found anew").due("client()", 0).due("pay(0, 200000)", 200000)
                .due("buy(0, 0, 10000)", 0).due("price(0, 20000)", 10000).due("buy(0, 0, 20000)", 1)
                .due("price(0, 30000)", 20000).due("buy(0, 0, 30000)", 2)
                .due("sell(0, 0, 1000)", 3).due("sell(0, 0, 1000)", 4)
                .due("year(0, 0, 0)", 2 * 29850 - 10050 - 20100).due("lot(0, 0, 0, 0)", 2)
                // The second sale takes the first lot now.
                .due("complain(3)", 0).due("year(0, 0, 0)", 29850 - 10050).due("lot(0, 0, 0, 0)", 1)
                .due("lot(0, 0, 0, 2)", 20100).due("lot(0, 0, 1, 0)", 2).due("lot(0, 0, 1, 2)", 30150)
                // Without the first lot, it takes the second.
                .due("complain(0)", 0).due("year(0, 0, 0)", 29850 - 20100).due("lot(0, 0, 0, 0)", 2)
                .due("lot(0, 0, 0, 1)", 1000).due("lot(0, 0, 1, 0)", -1)
                .due("complain(1)", 0).due("year(0, 0, 0)", 29850 - 30150).due("lot(0, 0, 0, 0)", -1);
        script.refused("complain(2)", Script.STATE);
        // A sale must not take from a lot that was bought after it.
        new Script("lots after a sale").due("client()", 0).due("pay(0, 200000)", 200000)
                .due("buy(0, 0, 10000)", 0).due("buy(0, 0, 10000)", 1).due("sell(0, 0, 1000)", 2)
                .due("price(0, 50000)", 10000).due("buy(0, 0, 50000)", 3).due("complain(0)", 0)
                .due("lot(0, 0, 0, 0)", 3).due("lot(0, 0, 0, 1)", 1000).due("lot(0, 0, 0, 2)", 50250)
                .due("year(0, 0, 0)", 9950 - 10050);
    }

    private static void paysTaxesBack() {
        Script script = new Script("taxes that come back").due("client()", 0).due("pay(0, 100000)", 100000)
                .due("buy(0, 0, 10000)", 0).due("price(0, 20000)", 10000).due("buy(0, 0, 20000)", 1)
                .due("price(0, 30000)", 20000).due("sell(0, 0, 1000)", 2).due("cash(0)", 99700)
                .due("year(0, 0, 2)", 4950).due("pass(360)", 360).due("cash(0)", 94750).due("cash(-1)", 150 - 29850 + 30000)
                .due("complain(0)", 2513).due("cash(0)", 107313).due("year(0, 0, 0)", 9750)
                .due("year(0, 0, 1)", 9750).due("year(0, 0, 2)", 2437).due("year(0, 0, 3)", 2437)
                // Taxes are not the house's: it pays 10050 alone.
                .due("cash(-1)", 300 - 10050).due("parts(0, 0)", 0);
        script.refused("complain(1)", Script.STATE);
        script.due("complain(2)", 2437).due("cash(0)", 79900).due("year(0, 0, 3)", 0).due("lot(0, 0, 0, 2)", 20100)
                .due("complain(1)", 0).due("cash(0)", 100000);
    }

    private static void takesTaxes() {
        new Script("taxes that are taken").due("client()", 0).due("pay(0, 100000)", 100000)
                .due("buy(0, 0, 10000)", 0).due("price(0, 5000)", 10000).due("sell(0, 0, 500)", 1)
                .due("price(0, 40000)", 5000).due("sell(0, 0, 500)", 2).due("year(0, 0, 0)", 12325)
                .due("pass(360)", 360).due("year(0, 0, 3)", 3081).due("cash(0)", 109244)
                .due("complain(1)", -637).due("year(0, 0, 3)", 3718).due("cash(0)", 106132)
                .due("pay(0, -106132)", 0).due("complain(2)", 3718).due("cash(0)", 3718 - 19900);
    }

    private static void goesThroughTheYears() {
        new Script("losses that were carried").due("client()", 0).due("pay(0, 100000)", 100000)
                .due("buy(0, 0, 40000)", 0).due("price(0, 5000)", 10000).due("sell(0, 0, 1000)", 1)
                .due("pass(360)", 360).due("price(0, 12000)", 5000).due("sell(0, 0, 1000)", 2)
                .due("pass(360)", 720).due("price(0, 20000)", 12000).due("sell(0, 0, 1000)", 3)
                .due("pass(360)", 1080).due("year(0, 2, 3)", 1660).due("price(0, 30000)", 20000)
                .due("sell(0, 0, 1000)", 4).due("cash(0)", 124780).due("year(0, 3, 2)", 4950)
                .due("complain(1)", -1274).due("cash(0)", 118556).due("year(0, 0, 0)", 0)
                .due("year(0, 1, 1)", 1890).due("year(0, 1, 3)", 472).due("year(0, 2, 1)", 9850)
                .due("year(0, 2, 3)", 2462).due("year(0, 3, 2)", 4950).due("year(0, 3, 3)", 0)
                .due("lot(0, 0, 0, 2)", 10050)
                // The tax of the year that had not ended is paid when it ends, and once.
                .due("pass(360)", 1440).due("cash(0)", 113606).due("year(0, 3, 3)", 4950)
                .due("complain(2)", 472).due("complain(4)", 4950).due("complain(3)", 2462).due("complain(0)", 0)
                .due("cash(0)", 100000);
    }

    private static void leavesOthersAlone() {
        new Script("another client").due("client()", 0).due("client()", 1).due("pay(0, 20000)", 20000)
                .due("pay(1, 20000)", 20000).due("buy(0, 0, 10000)", 0).due("buy(1, 0, 10000)", 1)
                .due("price(0, 20000)", 10000).due("sell(1, 0, 600)", 2).due("sell(0, 0, 500)", 3)
                .due("pass(360)", 360).due("cash(1)", 9950 + 11940 - 1477).due("cash(0)", 9950 + 9950 - 1231)
                .due("complain(3)", 1231).due("cash(1)", 9950 + 11940 - 1477).due("year(1, 0, 0)", 11940 - 6030)
                .due("lot(1, 0, 0, 0)", 1).due("lot(1, 0, 0, 1)", 400).due("lot(1, 0, 0, 2)", 4020)
                .due("lot(0, 0, 0, 1)", 1000).due("year(1, 0, 3)", 1477);
    }

    private static void leavesTheYearThatHasNotEnded() {
        new Script("the last day of a year").due("client()", 0).due("pay(0, 20000)", 20000)
                .due("buy(0, 0, 10000)", 0).due("price(0, 50000)", 10000).due("sell(0, 0, 500)", 1)
                .due("sell(0, 0, 500)", 2).due("pass(359)", 359).due("year(0, 0, 2)", (2 * 24875 - 10050) / 4)
                .due("complain(1)", 0).due("year(0, 0, 2)", (24875 - 5025) / 4).due("year(0, 0, 3)", 0)
                .due("cash(0)", 9950 + 24875).due("pass(1)", 360).due("year(0, 0, 3)", (24875 - 5025) / 4)
                .due("cash(0)", 9950 + 24875 - 4962);
    }

    private static void isRefused() {
        Script script = new Script("wrong complaints").due("client()", 0).due("pay(0, 100000)", 100000);
        script.refused("complain(0)", Script.INDEX);
        script.due("buy(0, 0, 10000)", 0).due("sell(0, 0, 10)", 1);
        script.refused("complain(-1)", Script.INDEX);
        script.refused("complain(2)", Script.INDEX);
        script.refused("complain(120)", Script.INDEX);
        script.refused("complain(2147483647)", Script.INDEX);
        script.refused("complain(-2147483648)", Script.INDEX);
        script.refused("complain(0)", Script.STATE);
        script.due("complain(1)", 0);
        script.refused("complain(1)", Script.STATE);
    }
}
