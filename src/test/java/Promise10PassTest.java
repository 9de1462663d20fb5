/** Promise 10: pass lets days pass, and returns the day then. */
public final class Promise10PassTest {
    public static void main(String[] args) {
        countsDays();
        isRefused();
        sellsWholeUnits();
        makesClientsPayTaxes();
        carriesLosses();
        endsYearsWithinAPass();
        reachesTheLastYear();
        Script.end();
    }

    private static void countsDays() {
        Script script = new Script("days").due("pass(1)", 1).due("pass(399)", 400).due("pass(400)", 800);
        for (int day = 1200; day <= 7200; day += 400) {
            script.due("pass(400)", day);
        }
        script.refused("pass(1)", Script.STATE);
        script.refused("pass(400)", Script.STATE);
        script.refused("pass(0)", Script.ARGUMENT);
        script.refused("pass(401)", Script.ARGUMENT);
    }

    private static void isRefused() {
        Script script = new Script("wrong days").due("client()", 0).due("pay(0, 20000)", 20000)
                .due("buy(0, 0, 10000)", 0).due("sell(0, 0, 1000)", 1);
        script.refused("pass(0)", Script.ARGUMENT);
        script.refused("pass(-1)", Script.ARGUMENT);
        script.refused("pass(401)", Script.ARGUMENT);
        script.refused("pass(2147483647)", Script.ARGUMENT);
        script.refused("pass(-2147483648)", Script.ARGUMENT);
        for (int day = 400; day <= 6800; day += 400) {
            script.due("pass(400)", day);
        }
        script.due("pass(399)", 7199).due("buy(0, 0, 10000)", 2).due("sell(0, 0, 1000)", 3);
        script.refused("pass(2)", Script.STATE);
        script.due("pass(1)", 7200);
    }

    private static void sellsWholeUnits() {
        new Script("units in stock").due("client()", 0).due("pay(0, 1000000)", 1000000)
                .due("buy(0, 0, 49990)", 0).due("units(0)", 5).due("parts(-1, 0)", 1).due("cash(-1)", 239)
                .due("sell(0, 0, 998)", 1).due("parts(-1, 0)", 999).due("cash(-1)", 239 - 9881).due("pass(3)", 3)
                .due("parts(-1, 0)", 999).due("units(0)", 5).due("cash(-1)", -9642)
                .due("sell(0, 0, 1)", 2).due("cash(-1)", -9652).due("price(0, 12345)", 10000)
                .due("parts(-1, 0)", 1000).due("units(0)", 5).due("pass(1)", 4)
                .due("parts(-1, 0)", 0).due("units(0)", 4).due("cash(-1)", 2693)
                .due("buy(0, 3, 10000)", 3).due("buy(0, 5, 10000)", 4).due("sell(0, 0, 2500)", 5)
                .due("sell(0, 5, 1000)", 6).due("price(5, 700)", 10000).due("cash(-1)", 2693 + 100 - 30708 - 9950)
                .due("pass(1)", 5).due("units(0)", 2).due("parts(-1, 0)", 500).due("units(5)", 0)
                .due("units(3)", 1).due("parts(-1, 5)", 0).due("cash(-1)", 2793 - 40658 + 24690 + 700);
    }

    private static void makesClientsPayTaxes() {
        new Script("taxes").due("client()", 0).due("client()", 1).due("client()", 2).due("pay(0, 10050)", 10050)
                .due("pay(1, 20100)", 20100).due("pay(2, 9)", 9).due("buy(0, 0, 10000)", 0)
                .due("buy(1, 1, 20000)", 1)
                .due("price(0, 20001)", 10000).due("price(1, 10003)", 10000).due("sell(0, 0, 1000)", 2)
                .due("sell(1, 1, 1000)", 3).due("cash(0)", 19901).due("cash(1)", 9953).due("pass(359)", 359)
                .due("cash(0)", 19901).due("year(0, 0, 3)", 0).due("pass(1)", 360)
                // A quarter of 9851 is 2462.75; the other has a loss of 97.
                .due("year(0, 0, 3)", 2462).due("cash(0)", 17439).due("year(1, 0, 3)", 0).due("cash(1)", 9953)
                .due("cash(2)", 9).due("pass(360)", 720).due("cash(0)", 17439).due("year(0, 1, 3)", 0)
                .due("year(0, 0, 3)", 2462);
    }

    private static void carriesLosses() {
        new Script("a loss that is carried").due("client()", 0).due("pay(0, 100000)", 100000)
                .due("buy(0, 0, 40000)", 0).due("price(0, 1000)", 10000).due("sell(0, 0, 1000)", 1)
                .due("pass(360)", 360).due("price(0, 15000)", 1000).due("sell(0, 0, 1000)", 2)
                .due("pass(360)", 720).due("sell(0, 0, 1000)", 3).due("year(0, 0, 0)", -9060)
                .due("year(0, 1, 0)", 4875).due("year(0, 2, 0)", 4875).due("cash(0)", 100000 - 40200 + 990 + 2 * 14925)
                // Of 4875, 4185 make up for what is carried.
                .due("year(0, 2, 1)", 690).due("pass(360)", 1080).due("year(0, 2, 3)", 172)
                .due("cash(0)", 100000 - 40200 + 990 + 2 * 14925 - 172)
                .due("sell(0, 0, 1000)", 4).due("pass(360)", 1440).due("year(0, 3, 3)", 1218);
    }

    private static void endsYearsWithinAPass() {
        new Script("two years that end").due("client()", 0).due("pay(0, 40000)", 40000).due("pass(359)", 359)
                .due("buy(0, 0, 10000)", 0).due("price(0, 20000)", 10000).due("sell(0, 0, 1000)", 1)
                .due("pass(400)", 759).due("year(0, 0, 3)", 2462).due("year(0, 1, 3)", 0)
                .due("cash(0)", 40000 - 10050 + 19900 - 2462);
    }

    private static void reachesTheLastYear() {
        Script script = new Script("the last year").due("client()", 0).due("pay(0, 40000)", 40000)
                .due("buy(0, 0, 20000)", 0).due("price(0, 20000)", 10000);
        for (int day = 400; day <= 6800; day += 400) {
            script.due("pass(400)", day);
        }
        script.due("pass(399)", 7199).due("sell(0, 0, 1000)", 1).due("year(0, 19, 0)", 9850).due("pass(1)", 7200)
                .due("year(0, 19, 3)", 2462).due("sell(0, 0, 1000)", 2).due("year(0, 20, 0)", 9850)
                .due("year(0, 20, 2)", 2462).due("year(0, 20, 3)", 0).due("tradeOf(2, 5)", 7200)
                .due("complain(2)", 0).due("complain(1)", 2462).due("cash(0)", 40000 - 20100);
    }
}
