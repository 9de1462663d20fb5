/** Promise 8: balance balances a client, and returns how many trades are made. */
public final class Promise08BalanceTest {
    public static void main(String[] args) {
        buysAndSells();
        sellsFirst();
        looksAtTheWealthOnce();
        buysForTheCashThatThereIs();
        makesNoEmptyTrades();
        balancesADebtor();
        looksAtTheRangeOfTheWealth();
        sellsForMoreThanABillion();
        makesGreatLots();
        isRefused();
        countsTrades();
        Script.end();
    }

    private static void buysAndSells() {
        new Script("balance").due("client()", 0).due("client()", 1).due("pay(0, 1000000)", 1000000)
                .due("balance(0)", 0).due("goal(0, 2, 25)", 25).due("goal(0, 0, 50)", 75).due("balance(1)", 0)
                .due("balance(0)", 2)
                .due("tradeOf(0, 0)", 0).due("tradeOf(0, 1)", 0).due("tradeOf(0, 2)", 50000)
                .due("tradeOf(0, 3)", 500000).due("tradeOf(0, 4)", 1000)
                .due("tradeOf(1, 1)", 2).due("tradeOf(1, 2)", 25000).due("tradeOf(1, 3)", 250000)
                .due("tradeOf(1, 4)", 500).due("cash(0)", 248500).due("units(0)", 50).due("units(2)", 25)
                // The wealth is 998500: 75 parts, and 37.5, are too much.
                .due("balance(0)", 2).due("tradeOf(2, 1)", 0).due("tradeOf(2, 2)", -75).due("tradeOf(2, 3)", 750)
                .due("tradeOf(2, 4)", 7).due("tradeOf(3, 1)", 2).due("tradeOf(3, 2)", -37)
                .due("tradeOf(3, 3)", 370).due("tradeOf(3, 4)", 3).due("cash(0)", 249610)
                .due("parts(-1, 0)", 75).due("parts(-1, 2)", 37)
                .due("year(0, 0, 0)", (743 - 751) + (367 - 370));
    }

    /** Fund 4 has too much, and is sold before fund 1 is bought. */
    private static void sellsFirst() {
        new Script("sales before buying").due("client()", 0).due("pay(0, 100200)", 100200)
                .due("buy(0, 4, 100000)", 0).due("cash(0)", 0).due("goal(0, 1, 60)", 60).due("goal(0, 4, 40)", 100)
                .due("balance(0)", 2).due("tradeOf(1, 1)", 4).due("tradeOf(1, 2)", -6000)
                .due("tradeOf(1, 3)", 60000).due("tradeOf(1, 4)", 300)
                // 59700 came; 597 less is 59103, with costs of 295.
                .due("tradeOf(2, 1)", 1).due("tradeOf(2, 3)", 59103).due("tradeOf(2, 4)", 295)
                .due("tradeOf(2, 2)", 5910).due("cash(0)", 59700 - 59103 - 295);
    }

    /** Costs make the wealth smaller while trades are made, but not the targets. */
    private static void looksAtTheWealthOnce() {
        new Script("the wealth is looked at once").due("client()", 0).due("pay(0, 100000)", 100000)
                .due("goal(0, 0, 33)", 33).due("goal(0, 3, 33)", 66).due("goal(0, 5, 33)", 99).due("balance(0)", 3)
                .due("tradeOf(0, 3)", 33000).due("tradeOf(1, 3)", 33000)
                // 33670 are left: 33000 is less than 33670 less 336.
                .due("tradeOf(2, 3)", 33000).due("cash(0)", 505)
                .due("price(0, 20007)", 10000).due("goal(0, 0, 1)", 67).due("goal(0, 5, 65)", 99)
                // 505 + 66023 + 33000 + 33000 = 132528: 1325, 43734 and 86143 are due.
                .due("balance(0)", 3).due("tradeOf(3, 2)", -(66023L - 1325) * 1000 / 20007)
                .due("tradeOf(3, 3)", 64682).due("tradeOf(3, 4)", 323)
                .due("tradeOf(4, 1)", 3).due("tradeOf(4, 3)", 43734 - 33000).due("tradeOf(4, 4)", 53)
                .due("tradeOf(5, 1)", 5).due("tradeOf(5, 3)", 53143).due("tradeOf(5, 4)", 265)
                .due("cash(0)", 505 + 64682 - 323 - 10734 - 53 - 53143 - 265);
    }

    private static void buysForTheCashThatThereIs() {
        int[] cash = {9, 10, 99, 100, 199, 5000, 10000, 10101, 1000000};
        int[] amounts = {0, 10, 99, 99, 198, 4950, 9900, 10000, 990000};
        int[] costs = {0, 0, 0, 0, 1, 49, 99, 50, 1980};
        for (int i = 0; i < cash.length; i++) {
            Script script = new Script("all of " + cash[i]).due("client()", 0)
                    .due("pay(0, " + cash[i] + ")", cash[i]).due("goal(0, 5, 100)", 100)
                    .due("balance(0)", amounts[i] == 0 ? 0 : 1).due("cash(0)", cash[i] - amounts[i] - costs[i]);
            if (amounts[i] > 0) {
                script.due("tradeOf(0, 3)", amounts[i]).due("tradeOf(0, 4)", costs[i]);
            }
        }
        // After 6000 and 60, 3940 are left, less 39.
        new Script("what is left for the second").due("client()", 0).due("pay(0, 10000)", 10000)
                .due("goal(0, 0, 60)", 60).due("goal(0, 1, 40)", 100).due("balance(0)", 2)
                .due("tradeOf(1, 3)", 3901).due("tradeOf(1, 4)", 39).due("cash(0)", 0);
        // The lack of 900 is less than the cash, less the hundredth part.
        new Script("what lacks").due("client()", 0).due("pay(0, 1000)", 1000).due("goal(0, 0, 90)", 90)
                .due("balance(0)", 1).due("tradeOf(0, 3)", 900).due("cash(0)", 91);
    }

    private static void makesNoEmptyTrades() {
        // One part of 600 by 1000 would be sold for no amount.
        new Script("a sale of no amount").due("client()", 0).due("pay(0, 10050)", 10050)
                .due("buy(0, 2, 10000)", 0).due("price(2, 600)", 10000).due("pay(0, 6)", 6)
                .due("goal(0, 2, 99)", 99).due("wealth(0)", 606).due("balance(0)", 0).due("parts(0, 2)", 1000)
                .due("price(2, 500)", 600).due("balance(0)", 0)
                // 500 of 511: 505 are due, and 511 less 5 too.
                .due("pay(0, 5)", 11).due("goal(0, 2, 97)", 97)
                // 495 are due: 10 parts for 5.
                .due("balance(0)", 1).due("tradeOf(1, 2)", -10).due("tradeOf(1, 3)", 5);
        // 500 are too much, but a part is worth 1000.
        new Script("a sale of no parts").due("client()", 0).due("pay(0, 1010)", 1010).due("price(0, 1000000)", 10000)
                .due("buy(0, 0, 1000)", 0).due("cash(0)", 0).due("goal(0, 0, 50)", 50).due("balance(0)", 0)
                .due("goal(0, 0, 0)", 0).due("balance(0)", 1).due("tradeOf(1, 2)", -1);
        // 999 of 1998 lack in the one, and 999 in the other.
        new Script("buying no parts").due("client()", 0).due("pay(0, 1998)", 1998).due("price(0, 1000000)", 10000)
                .due("price(1, 1000000)", 10000).due("price(2, 998000)", 10000).due("goal(0, 0, 50)", 50)
                .due("goal(0, 2, 50)", 100).due("balance(0)", 1).due("tradeOf(0, 1)", 2).due("tradeOf(0, 3)", 999)
                .due("tradeOf(0, 2)", 1);
        new Script("trades of one cent").due("client()", 0).due("pay(0, 2000)", 2000).due("price(0, 1000)", 10000)
                .due("buy(0, 0, 1000)", 0).due("cash(0)", 990).due("goal(0, 0, 50)", 50)
                // 1000 of 1990, and 995 are due; then 995 of 1991, and 995 are due; then of 1992, 996.
                .due("balance(0)", 1).due("tradeOf(1, 3)", 5).due("pay(0, 1)", 996).due("balance(0)", 0)
                .due("pay(0, 1)", 997).due("balance(0)", 1).due("tradeOf(2, 2)", 1).due("tradeOf(2, 3)", 1)
                .due("cash(0)", 996).due("pay(0, -2)", 994).due("balance(0)", 1).due("tradeOf(3, 2)", -1)
                .due("tradeOf(3, 3)", 1).due("cash(0)", 995);
        new Script("all is as it is to be").due("client()", 0).due("pay(0, 20050)", 20050)
                .due("buy(0, 0, 10000)", 0).due("goal(0, 0, 50)", 50).due("balance(0)", 0);
    }

    /** 1000 parts and a debt of 246987, as in the test of pay. */
    private static Script debtor(String about) {
        return new Script(about).due("client()", 0).due("pay(0, 20100)", 20100).due("buy(0, 0, 20000)", 0)
                .due("price(0, 1000000)", 10000).due("sell(0, 0, 1000)", 1).due("pay(0, -998000)", 0)
                .due("pass(360)", 360).due("cash(0)", -246987);
    }

    private static void balancesADebtor() {
        debtor("a debtor that has more").due("price(0, 300000)", 1000000).due("wealth(0)", 53013)
                .due("goal(0, 0, 50)", 50).due("goal(0, 1, 50)", 100).due("balance(0)", 2)
                .due("tradeOf(2, 2)", -911).due("tradeOf(2, 3)", 273300).due("tradeOf(2, 4)", 546)
                .due("tradeOf(3, 3)", 25510).due("tradeOf(3, 4)", 127).due("cash(0)", 130);
        debtor("a debtor that has just nothing").due("price(0, 246987)", 1000000).due("wealth(0)", 0)
                .due("goal(0, 0, 100)", 100).due("balance(0)", 1).due("tradeOf(2, 2)", -1000)
                .due("tradeOf(2, 4)", 493).due("cash(0)", -493)
                .refused("balance(0)", Script.STATE);
        debtor("a debtor after all sales").due("price(0, 247100)", 1000000).due("wealth(0)", 113)
                .due("goal(0, 1, 100)", 100).due("balance(0)", 1).due("parts(0, 0)", 0).due("cash(0)", -381)
                .due("parts(0, 1)", 0);
        debtor("a debtor that has less").due("price(0, 246986)", 1000000).due("wealth(0)", -1)
                .refused("balance(0)", Script.STATE)
                .due("pay(0, 1)", -246986).due("balance(0)", 1);
    }

    private static void looksAtTheRangeOfTheWealth() {
        Script script = new Script("the greatest wealth").due("client()", 0).due("goal(0, 0, 100)", 100);
        for (int i = 1; i <= 10; i++) {
            script.due("pay(0, 10000000)", 10000000L * i);
        }
        script.due("pay(0, 1)", 100000001);
        script.refused("balance(0)", Script.STATE);
        script.due("pay(0, -1)", 100000000).due("balance(0)", 1).due("tradeOf(0, 3)", 99000000)
                .due("tradeOf(0, 4)", 198000).due("parts(0, 0)", 9900000).due("cash(0)", 802000)
                .due("price(0, 1000000)", 10000);
        script.refused("balance(0)", Script.STATE);
    }

    /** Sales for 3992000000 are unwound after 3990000000 were paid out. */
    private static void sellsForMoreThanABillion() {
        Script script = new Script("a great sale of balance").due("client()", 0).due("pay(0, 10000000)", 10000000)
                .due("pay(0, 20000)", 10020000).due("price(0, 10)", 10000).due("buy(0, 0, 10000000)", 0)
                .due("price(0, 1000000)", 10);
        for (int sale = 1; sale <= 4; sale++) {
            script.due("sell(0, 0, 1000000)", sale);
        }
        for (int i = 0; i < 399; i++) {
            script.make("pay(0, -10000000)");
        }
        for (int sale = 1; sale <= 4; sale++) {
            script.due("complain(" + sale + ")", 0);
        }
        script.due("cash(0)", -3990000000L).due("parts(0, 0)", 1000000000).due("price(0, 4000)", 1000000)
                .due("wealth(0)", 10000000).due("goal(0, 0, 50)", 50).due("balance(0)", 1)
                .due("tradeOf(5, 2)", -998750000).due("tradeOf(5, 3)", 3995000000L).due("tradeOf(5, 4)", 7990000)
                .due("cash(0)", -2990000).due("lot(0, 0, 0, 1)", 1250000)
                .due("lot(0, 0, 0, 2)", 10020000 - 10007475)
                .due("year(0, 0, 0)", 3995000000L - 7990000 - 10007475);
    }

    /** The cost of a lot times its parts stays within a long. */
    private static void makesGreatLots() {
        Script script = new Script("a great lot").due("client()", 0).due("price(0, 10)", 10000)
                .due("goal(0, 0, 100)", 100);
        for (int i = 1; i <= 10; i++) {
            script.due("pay(0, 10000000)", 10000000L * i);
        }
        script.due("balance(0)", 1).due("parts(0, 0)", 9900000000L).due("lot(0, 0, 0, 2)", 99198000)
                .due("units(0)", 9900000).due("goal(0, 0, 1)", 1).due("wealth(0)", 99802000).due("balance(0)", 1)
                // 99000000 - 998020 are too much: 9800198000 parts, of a cost of 98197983.96.
                .due("tradeOf(1, 2)", -9800198000L).due("tradeOf(1, 3)", 98001980).due("tradeOf(1, 4)", 196003)
                .due("year(0, 0, 0)", 98001980 - 196003 - 98197983).due("lot(0, 0, 0, 2)", 1000017);
    }

    private static void isRefused() {
        Script script = new Script("wrong balances").due("client()", 0).due("pay(0, 5000)", 5000)
                .due("goal(0, 0, 100)", 100);
        script.refused("balance(1)", Script.INDEX);
        script.refused("balance(-1)", Script.INDEX);
        script.refused("balance(2147483647)", Script.INDEX);
        script.refused("balance(-2147483648)", Script.INDEX);
        script.due("balance(0)", 1);
    }

    private static void countsTrades() {
        Script script = new Script("108 trades and more").due("client()", 0).due("pay(0, 100000)", 100000);
        for (int fund = 0; fund < 6; fund++) {
            script.due("goal(0, " + fund + ", 10)", 10 * fund + 10);
        }
        for (int trade = 0; trade < 108; trade++) {
            script.due("buy(0, 0, 10)", trade);
        }
        script.due("balance(0)", 6).due("tradeOf(113, 1)", 5);
        script.refused("balance(0)", Script.STATE);
        script.refused("balance(1)", Script.INDEX);
        Script unwound = new Script("109 trades of which one was unwound").due("client()", 0)
                .due("pay(0, 100000)", 100000);
        for (int trade = 0; trade < 109; trade++) {
            unwound.due("buy(0, 0, 10)", trade);
        }
        unwound.due("complain(108)", 0);
        unwound.refused("balance(0)", Script.STATE);
    }
}
