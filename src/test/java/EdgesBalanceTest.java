/** What the document says of balancing, sentence by sentence, at its edges. At a price of 1000 a part is worth a cent. */
public final class EdgesBalanceTest {
    public static void main(String[] args) {
        theWealthIsCutFundByFund();
        aFundIsToHaveHundredthsThatAreCut();
        aFundThatHasMoreIsSold();
        partsSoldAreCut();
        tradesGoByRisingFunds();
        aFundThatHasLessIsBought();
        theCashThatThereIsLimitsBuying();
        withoutCashNothingIsBought();
        buyingGoesHoweverGreatItIs();
        tradesOfNoPartsOrNoAmountAreNotMade();
        allIsSoldWithoutAGoal();
        itTellsHowManyTradesAreMade();
        thereAreAtMost108TradesBefore();
        theWealthIs0To100000000();
        Script.end();
    }

    private static Script client(String about, int cash) {
        Script script = new Script(about).due("client()", 0).due("pay(0, " + cash + ")", cash);
        for (int fund = 0; fund < 6; fund++) {
            script.due("price(" + fund + ", 1000)", 10000);
        }
        return script;
    }

    /** "the parts times the price, by 1000, cut, fund by fund" */
    private static void theWealthIsCutFundByFund() {
        client("a wealth that is cut twice", 1002).due("buy(0, 0, 1)", 0).due("buy(0, 1, 1)", 1)
                .due("price(0, 1999)", 1000).due("price(1, 1999)", 1000).due("wealth(0)", 1002)
                // 701.4, where 702.1 would be due of 1003.
                .due("goal(0, 5, 70)", 70).due("balance(0)", 1).due("tradeOf(2, 1)", 5).due("tradeOf(2, 3)", 701);
        client("a wealth that is cut once", 101).due("buy(0, 0, 1)", 0).due("price(0, 1999)", 1000)
                .due("wealth(0)", 101).due("price(0, 2000)", 1999).due("wealth(0)", 102);
    }

    /** "each fund is to have so many hundredths of it, cut" */
    private static void aFundIsToHaveHundredthsThatAreCut() {
        int[] wealths = {99, 100, 199, 200, 199, 201, 1, 2, 3, 1, 99};
        int[] goals = {1, 1, 1, 1, 50, 50, 50, 50, 50, 99, 99};
        int[] amounts = {0, 1, 1, 2, 99, 100, 0, 1, 1, 0, 98};
        for (int i = 0; i < wealths.length; i++) {
            Script script = client(goals[i] + " hundredths of " + wealths[i], wealths[i])
                    .due("goal(0, 2, " + goals[i] + ")", goals[i]).due("balance(0)", amounts[i] == 0 ? 0 : 1)
                    .due("parts(0, 2)", amounts[i]);
            if (amounts[i] > 0) {
                script.due("tradeOf(0, 3)", amounts[i]).due("tradeOf(0, 1)", 2);
            }
        }
    }

    /** "if it has more": 50 parts, which are to be the half of the wealth. */
    private static void aFundThatHasMoreIsSold() {
        int[] cash = {46, 47, 48, 49, 50, 51, 52, 53, 54};
        int[] parts = {-2, -2, -1, -1, 0, 0, 1, 1, 2};
        for (int i = 0; i < cash.length; i++) {
            Script script = client("50, and " + cash[i] + " in cash", 50 + cash[i]).due("buy(0, 0, 50)", 0)
                    .due("goal(0, 0, 50)", 50).due("balance(0)", parts[i] == 0 ? 0 : 1)
                    .due("parts(0, 0)", 50 + parts[i]).due("cash(0)", cash[i] - parts[i]);
            if (parts[i] != 0) {
                script.due("tradeOf(1, 2)", parts[i]).due("tradeOf(1, 3)", Math.abs(parts[i]));
            }
        }
    }

    /** "the parts that are what is too much times 1000, by the price, cut, are sold" */
    private static void partsSoldAreCut() {
        // 10 parts at 2000 are 20; 10 are too much: 5 parts. At 2999 they are 29; 15 are too much: 5 parts for 14.
        client("parts at 2000", 10).due("buy(0, 3, 10)", 0).due("goal(0, 3, 50)", 50).due("price(3, 2000)", 1000)
                .due("balance(0)", 1).due("tradeOf(1, 2)", -5).due("tradeOf(1, 3)", 10).due("cash(0)", 10);
        client("parts at 2999", 10).due("buy(0, 3, 10)", 0).due("goal(0, 3, 50)", 50).due("price(3, 2999)", 1000)
                .due("balance(0)", 1).due("tradeOf(1, 2)", -5).due("tradeOf(1, 3)", 14).due("cash(0)", 14);
    }

    /** "First, by rising funds, if it has more ...; then, by rising funds, if it has less" */
    private static void tradesGoByRisingFunds() {
        client("sales, then buying", 300).due("buy(0, 4, 100)", 0).due("buy(0, 5, 100)", 1).due("cash(0)", 98)
                .due("goal(0, 1, 20)", 20).due("goal(0, 0, 20)", 40).due("goal(0, 4, 10)", 50)
                // Of 298: 59, 59, 29 and nothing.
                .due("balance(0)", 4)
                .due("tradeOf(2, 1)", 4).due("tradeOf(2, 2)", -71).due("tradeOf(2, 4)", 0)
                .due("tradeOf(3, 1)", 5).due("tradeOf(3, 2)", -100).due("tradeOf(3, 4)", 1)
                .due("tradeOf(4, 1)", 0).due("tradeOf(4, 2)", 59).due("tradeOf(5, 1)", 1).due("tradeOf(5, 2)", 59)
                .due("cash(0)", 98 + 71 + 99 - 118);
        Script all = client("each fund", 600);
        for (int fund = 0; fund < 6; fund++) {
            all.due("goal(0, " + fund + ", 10)", 10 * fund + 10);
        }
        all.due("balance(0)", 6);
        for (int fund = 0; fund < 6; fund++) {
            all.due("tradeOf(" + fund + ", 1)", fund).due("tradeOf(" + fund + ", 2)", 60);
        }
        for (int fund = 0; fund < 6; fund++) {
            all.make("goal(0, " + fund + ", " + (fund % 2 == 0 ? 0 : 20) + ")");
        }
        // Of 600, 120 in the funds 1, 3 and 5; 60 of each of the others are sold before.
        all.due("balance(0)", 6);
        int[] funds = {0, 2, 4, 1, 3, 5};
        for (int i = 0; i < funds.length; i++) {
            all.due("tradeOf(" + (6 + i) + ", 1)", funds[i]).due("tradeOf(" + (6 + i) + ", 2)", i < 3 ? -60 : 60);
        }
    }

    /** "if it has less, as much is bought for what lacks" */
    private static void aFundThatHasLessIsBought() {
        // 3 parts at 1999 are 5 of 105, and 52 are due: 47 buy 23 parts.
        client("what lacks", 103).due("buy(0, 1, 3)", 0).due("price(1, 1999)", 1000).due("wealth(0)", 105)
                .due("goal(0, 1, 50)", 50).due("balance(0)", 1).due("tradeOf(1, 3)", 47).due("tradeOf(1, 2)", 23)
                .due("cash(0)", 53);
    }

    /** "or for the cash that there is, less the hundredth part of it, which is cut, if that is less" */
    private static void theCashThatThereIsLimitsBuying() {
        int[] cash = {1, 99, 100, 101, 199, 200, 9999, 10000, 10100, 10101, 100000, 100999, 101010};
        int[] amounts = {1, 99, 99, 100, 198, 198, 9900, 9900, 9999, 10000, 99000, 99990, 100000};
        int[] left = {0, 0, 1, 0, 0, 1, 0, 1, 2, 51, 505, 510, 810};
        for (int i = 0; i < cash.length; i++) {
            client("all of " + cash[i], cash[i]).due("goal(0, 3, 100)", 100).due("balance(0)", 1)
                    .due("tradeOf(0, 3)", amounts[i]).due("cash(0)", left[i]);
        }
        // What lacks is 98 or 99 of 100, which is no more than 100 less 1.
        for (int goal = 98; goal <= 100; goal++) {
            client("a goal of " + goal, 100).due("goal(0, 3, " + goal + ")", goal).due("balance(0)", 1)
                    .due("tradeOf(0, 3)", Math.min(goal, 99));
        }
        // 5000 and 50, 4900 and 49: one cent is left, which buys a part at 1000, but none at 1001.
        client("the last cent", 10000).due("goal(0, 2, 50)", 50).due("goal(0, 3, 49)", 99)
                .due("goal(0, 5, 1)", 100).due("balance(0)", 3).due("tradeOf(1, 3)", 4900).due("tradeOf(2, 1)", 5)
                .due("tradeOf(2, 3)", 1).due("tradeOf(2, 2)", 1).due("cash(0)", 0);
        client("the last cent, which is too little", 10000).due("price(5, 1001)", 1000).due("goal(0, 2, 50)", 50)
                .due("goal(0, 3, 49)", 99).due("goal(0, 5, 1)", 100).due("balance(0)", 2).due("cash(0)", 1);
    }

    /** A part of 1000000 is worth 1000, of which nothing can be sold. */
    private static void withoutCashNothingIsBought() {
        client("no cash", 1010).due("price(0, 1000000)", 1000).due("buy(0, 0, 1000)", 0).due("cash(0)", 0)
                .due("goal(0, 0, 50)", 50).due("goal(0, 1, 50)", 100).due("balance(0)", 0).due("parts(0, 1)", 0)
                // One cent buys.
                .due("pay(0, 1)", 1).due("balance(0)", 1).due("tradeOf(1, 1)", 1).due("tradeOf(1, 3)", 1)
                .due("cash(0)", 0);
        // 50 parts worth 50000, of which 554 are too much, and a debt of 54.
        client("less than no cash", 50).due("buy(0, 0, 50)", 0).due("price(0, 1080)", 1000).due("sell(0, 0, 50)", 1)
                .due("pay(0, -54)", 0).due("complain(1)", 0).due("cash(0)", -54).due("price(0, 1000000)", 1080)
                .due("wealth(0)", 49946).due("goal(0, 0, 99)", 99).due("goal(0, 1, 1)", 100).due("balance(0)", 0)
                .due("cash(0)", -54).due("parts(0, 0)", 50).due("parts(0, 1)", 0);
    }

    /** "(however great it is)" */
    private static void buyingGoesHoweverGreatItIs() {
        int[] amounts = {9999999, 10000000, 10000001, 49999999};
        int[] costs = {19999, 20000, 20000, 99999};
        for (int i = 0; i < amounts.length; i++) {
            Script script = new Script("buying for " + amounts[i]).due("client()", 0).due("price(0, 1000)", 10000);
            int paid = 0;
            while (paid < 2 * amounts[i]) {
                int step = Math.min(10000000, 2 * amounts[i] - paid);
                paid += step;
                script.due("pay(0, " + step + ")", paid);
            }
            script.due("goal(0, 0, 50)", 50).due("balance(0)", 1).due("tradeOf(0, 3)", amounts[i])
                    .due("tradeOf(0, 2)", amounts[i]).due("tradeOf(0, 4)", costs[i])
                    .due("cash(0)", amounts[i] - costs[i]);
        }
    }

    /** "trades of no parts or no amount are not made" */
    private static void tradesOfNoPartsOrNoAmountAreNotMade() {
        // 10 parts at 100 are worth 1, which is too much: 10 parts for 1. At 99 they are worth nothing.
        client("a sale of one cent", 10).due("buy(0, 0, 10)", 0).due("price(0, 100)", 1000).due("balance(0)", 1)
                .due("tradeOf(1, 2)", -10).due("tradeOf(1, 3)", 1);
        client("a sale for nothing", 10).due("buy(0, 0, 10)", 0).due("price(0, 99)", 1000).due("balance(0)", 0)
                .due("parts(0, 0)", 10).due("lot(0, 0, 0, 2)", 10);
        // 11 parts at 99 are worth 1: 10 parts are too much, and those bring nothing.
        client("parts that bring nothing", 11).due("buy(0, 0, 11)", 0).due("price(0, 99)", 1000).due("wealth(0)", 1)
                .due("balance(0)", 0).due("parts(0, 0)", 11);
        // One part too much at 1000, none at 1001, as one cent is too much.
        client("a sale of one part", 100).due("buy(0, 0, 51)", 0).due("goal(0, 0, 50)", 50).due("balance(0)", 1)
                .due("tradeOf(1, 2)", -1);
        client("a sale of no part", 100).due("buy(0, 0, 51)", 0).due("goal(0, 0, 50)", 50).due("price(0, 1001)", 1000)
                .due("wealth(0)", 100).due("balance(0)", 0);
        client("buying one part", 100).due("buy(0, 0, 49)", 0).due("goal(0, 0, 50)", 50).due("balance(0)", 1)
                .due("tradeOf(1, 2)", 1);
        client("buying no part", 100).due("buy(0, 0, 49)", 0).due("goal(0, 0, 50)", 50).due("price(0, 1001)", 1000)
                .due("wealth(0)", 100).due("balance(0)", 0).due("cash(0)", 51);
    }

    private static void allIsSoldWithoutAGoal() {
        Script script = client("no goals", 606);
        for (int fund = 0; fund < 6; fund++) {
            script.due("buy(0, " + fund + ", 100)", fund);
        }
        script.due("cash(0)", 0).due("balance(0)", 6).due("cash(0)", 594).due("balance(0)", 0);
        for (int fund = 0; fund < 6; fund++) {
            script.due("parts(0, " + fund + ")", 0).due("tradeOf(" + (6 + fund) + ", 2)", -100);
        }
    }

    /** "Returns how many trades are made." */
    private static void itTellsHowManyTradesAreMade() {
        for (int funds = 0; funds <= 6; funds++) {
            Script script = client(funds + " goals", 900);
            for (int fund = 0; fund < funds; fund++) {
                script.due("goal(0, " + fund + ", 10)", 10 * fund + 10);
            }
            script.due("balance(0)", funds).due("balance(0)", 0);
            if (funds > 0) {
                script.due("tradeOf(" + (funds - 1) + ", 6)", 1);
            }
            script.refused("tradeOf(" + funds + ", 0)", Script.INDEX);
        }
    }

    /** "if there are more than 108 trades" */
    private static void thereAreAtMost108TradesBefore() {
        Script script = new Script("108 trades, 109 trades").due("client()", 0).due("client()", 1)
                .due("pay(0, 100000)", 100000).due("pay(1, 100000)", 100000).due("goal(1, 0, 50)", 50);
        for (int trade = 0; trade < 107; trade++) {
            script.due("buy(0, 0, 10)", trade);
        }
        // Clients who need no trade, and one who needs one.
        script.due("buy(0, 1, 10)", 107).due("client()", 2).due("balance(2)", 0)
                .due("balance(1)", 1).due("tradeOf(108, 0)", 1);
        script.refused("balance(0)", Script.STATE);
        script.refused("balance(1)", Script.STATE);
        script.refused("balance(2)", Script.STATE);
        script.refused("balance(3)", Script.INDEX);
        script.due("buy(0, 0, 10)", 109).due("complain(109)", 0).due("complain(108)", 0);
        script.refused("balance(2)", Script.STATE);
        Script unwound = new Script("108 trades of which some are unwound").due("client()", 0)
                .due("pay(0, 100000)", 100000);
        for (int trade = 0; trade < 108; trade++) {
            unwound.due("buy(0, 0, 10)", trade);
        }
        unwound.due("complain(0)", 0).due("complain(107)", 0).due("balance(0)", 1).due("tradeOf(108, 2)", -106);
        unwound.refused("balance(0)", Script.STATE);
    }

    /** "or the wealth is below 0 or above 100000000" */
    private static void theWealthIs0To100000000() {
        // 100000 parts at 1000000.
        Script great = new Script("the greatest wealth in parts").due("client()", 0).due("pay(0, 1010)", 1010)
                .due("price(0, 10)", 10000).due("buy(0, 0, 1000)", 0).due("cash(0)", 0).due("price(0, 1000000)", 10)
                .due("wealth(0)", 100000000).due("goal(0, 0, 100)", 100).due("balance(0)", 0).due("pay(0, 1)", 1);
        great.refused("balance(0)", Script.STATE);
        great.due("pay(0, -1)", 0).due("price(0, 999999)", 1000000).due("wealth(0)", 99999900)
                .due("pay(0, 101)", 101);
        great.refused("balance(0)", Script.STATE);
        great.due("pay(0, -1)", 100).due("balance(0)", 0);
        // A sale for 54 is unwound after 54 were paid out: 50 parts, and -54 in cash.
        Script small = new Script("the smallest wealth").due("client()", 0).due("pay(0, 50)", 50)
                .due("price(0, 1000)", 10000).due("buy(0, 0, 50)", 0).due("price(0, 1080)", 1000)
                .due("sell(0, 0, 50)", 1).due("pay(0, -54)", 0).due("complain(1)", 0).due("cash(0)", -54)
                .due("wealth(0)", 0).due("price(0, 1060)", 1080).due("wealth(0)", -1);
        small.refused("balance(0)", Script.STATE);
        small.due("price(0, 1080)", 1060).due("balance(0)", 1).due("cash(0)", 0).due("balance(0)", 0);
    }
}
