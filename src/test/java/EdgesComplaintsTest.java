/** What the document's "Complaints" says, sentence by sentence, at its edges. */
public final class EdgesComplaintsTest {
    public static void main(String[] args) {
        itDoesNotStandAnyMore();
        whatWasPaidComesBack();
        theHouseBuysUnitsForASale();
        theHouseBuysManyUnits();
        partsOfBuyingGoToTheStock();
        aTradeOfABalanceIsUnwound();
        itIsRefusedIfPartsLackForASale();
        itIsRefusedIfPartsLackAtSomeTime();
        lotsAreFoundAnew();
        taxesOfYearsThatHaveEndedComeBack();
        taxesStayIfTheQuarterIsTheSame();
        taxesOfYearsThatHaveEndedAreTaken();
        taxesOfALaterYearAreFoundAnew();
        taxesOfManyYearsAreFoundAnew();
        theLastDayOfTheHouse();
        taxesTakenMayLeaveADebt();
        Script.end();
    }

    private static Script client(String about) {
        return new Script(about).due("client()", 0).due("pay(0, 1000)", 1000).due("price(0, 1000)", 10000);
    }

    /** "it does not stand any more"; "if it was unwound" it is refused. */
    private static void itDoesNotStandAnyMore() {
        Script script = client("buying and a sale").due("buy(0, 0, 100)", 0).due("sell(0, 0, 40)", 1)
                .due("buy(0, 0, 7)", 2).due("complain(1)", 0);
        script.due("tradeOf(0, 6)", 1).due("tradeOf(1, 6)", 0).due("tradeOf(2, 6)", 1);
        script.refused("complain(1)", Script.STATE);
        script.due("complain(0)", 0).due("tradeOf(0, 6)", 0).due("tradeOf(2, 6)", 1);
        script.refused("complain(0)", Script.STATE);
        script.refused("complain(1)", Script.STATE);
        script.due("complain(2)", 0);
        for (int trade = 0; trade < 3; trade++) {
            script.due("tradeOf(" + trade + ", 6)", 0);
            script.refused("complain(" + trade + ")", Script.STATE);
        }
        script.due("tradeOf(1, 2)", -40).due("tradeOf(1, 3)", 40).due("pass(1)", 1);
        script.refused("complain(2)", Script.STATE);
        script.refused("complain(3)", Script.INDEX);
    }

    /** "what was paid for it comes back to the client, parts go back, or the other way round" */
    private static void whatWasPaidComesBack() {
        int[] amounts = {1, 99, 100, 10000, 100000, 10000000};
        int[] costs = {0, 0, 1, 50, 200, 20000};
        for (int i = 0; i < amounts.length; i++) {
            Script script = new Script("a trade for " + amounts[i]).due("client()", 0)
                    .due("pay(0, 10000000)", 10000000).due("pay(0, 10000000)", 20000000).due("price(0, 1000)", 10000)
                    .due("buy(0, 0, " + amounts[i] + ")", 0).due("sell(0, 0, " + amounts[i] + ")", 1)
                    .due("cash(0)", 20000000 - 2 * costs[i]).due("parts(0, 0)", 0);
            script.refused("complain(0)", Script.STATE);
            // What was paid comes back, whatever the price is by now.
            script.due("price(0, 2000)", 1000).due("complain(1)", 0)
                    .due("cash(0)", 20000000 - amounts[i] - costs[i]).due("parts(0, 0)", amounts[i])
                    .due("price(0, 500)", 2000).due("complain(0)", 0).due("cash(0)", 20000000).due("parts(0, 0)", 0)
                    .due("parts(-1, 0)", (amounts[i] + 999) / 1000 * 1000).due("units(0)", (amounts[i] + 999) / 1000)
                    .due("cash(-1)", (amounts[i] + 999) / 1000 * -1000L);
        }
    }

    /** "(the house ... buys units, if the stock has not parts enough)": 700 parts go back, and 700 less so many are there. */
    private static void theHouseBuysUnitsForASale() {
        int[] taken = {0, 1, 699, 700, 701, 1700};
        int[] units = {0, 1, 1, 1, 0, 1};
        for (int i = 0; i < taken.length; i++) {
            Script script = client("a stock that lacks " + taken[i]).due("client()", 1).due("pay(1, 10000)", 10000)
                    .due("buy(0, 0, 950)", 0).due("pay(0, 91)", 132).due("buy(0, 0, 50)", 1).due("units(0)", 1)
                    .due("sell(0, 0, 700)", 2).due("parts(-1, 0)", 700);
            if (taken[i] > 0) {
                script.due("buy(1, 0, " + taken[i] + ")", 3);
            }
            int held = taken[i] > 700 ? (taken[i] + 300 + 999) / 1000 : 1;
            long money = 959 + 50 - 693 + taken[i] + taken[i] / 100 - 1000 * held;
            script.due("units(0)", held).due("cash(-1)", money).due("price(0, 3000)", 1000)
                    .due("complain(2)", 0).due("units(0)", held + units[i])
                    .due("parts(-1, 0)", (held + units[i]) * 1000 - 1000 - taken[i]).due("parts(0, 0)", 1000)
                    .due("cash(-1)", money + 693 - 3000 * units[i]);
        }
    }

    /** 2700 parts go back, of which 2000, or one more or less, are not in stock. */
    private static void theHouseBuysManyUnits() {
        int[] taken = {299, 300, 301};
        int[] bought = {2, 2, 3};
        int[] stock = {1, 0, 999};
        for (int i = 0; i < taken.length; i++) {
            new Script("a stock of " + (1000 - taken[i])).due("client()", 0).due("client()", 1)
                    .due("pay(0, 10000)", 10000).due("pay(1, 10000)", 10000).due("price(0, 1000)", 10000)
                    .due("buy(0, 0, 2700)", 0).due("sell(0, 0, 2700)", 1).due("parts(-1, 0)", 3000).due("pass(1)", 1)
                    .due("units(0)", 0).due("buy(1, 0, " + taken[i] + ")", 2).due("units(0)", 1)
                    .due("complain(1)", 0).due("units(0)", 1 + bought[i]).due("parts(-1, 0)", stock[i])
                    .due("parts(0, 0)", 2700).due("parts(1, 0)", taken[i]);
        }
    }

    private static void partsOfBuyingGoToTheStock() {
        client("parts that go back").due("buy(0, 0, 900)", 0).due("parts(-1, 0)", 100).due("complain(0)", 0)
                .due("parts(-1, 0)", 1000).due("units(0)", 1).due("cash(-1)", -1000).due("price(0, 1500)", 1000)
                .due("pass(1)", 1).due("parts(-1, 0)", 0).due("units(0)", 0).due("cash(-1)", 500);
        new Script("parts that another client has by then").due("client()", 0).due("client()", 1)
                .due("pay(0, 1000)", 1000).due("pay(1, 1000)", 1000).due("price(0, 1000)", 10000)
                .due("buy(0, 0, 900)", 0).due("sell(0, 0, 900)", 1).due("buy(1, 0, 900)", 2).due("parts(-1, 0)", 100)
                .due("complain(1)", 0).due("units(0)", 2).due("parts(-1, 0)", 200).due("complain(0)", 0)
                .due("parts(-1, 0)", 1100).due("parts(1, 0)", 900).due("pass(1)", 1).due("parts(-1, 0)", 100);
    }

    private static void aTradeOfABalanceIsUnwound() {
        client("a balance that is complained of").due("goal(0, 0, 50)", 50).due("goal(0, 1, 30)", 80)
                .due("price(1, 1000)", 10000).due("balance(0)", 2).due("cash(0)", 1000 - 505 - 303)
                .due("complain(0)", 0).due("cash(0)", 1000 - 303).due("complain(1)", 0).due("cash(0)", 1000)
                .due("balance(0)", 2).due("tradeOf(2, 2)", 500);
    }

    /** "It is refused if the client would not have parts enough for the sales that stand": lots of 10 and 10 parts. */
    private static void itIsRefusedIfPartsLackForASale() {
        for (int sold = 1; sold <= 20; sold++) {
            for (int trade = 0; trade < 2; trade++) {
                Script script = client(sold + " parts of 20 are sold").due("buy(0, 0, 10)", 0).due("buy(0, 0, 10)", 1)
                        .due("sell(0, 0, " + sold + ")", 2);
                if (sold <= 10) {
                    script.due("complain(" + trade + ")", 0).due("parts(0, 0)", 10 - sold);
                } else {
                    script.refused("complain(" + trade + ")", Script.STATE);
                }
            }
        }
        Script later = client("a sale of all parts").due("buy(0, 0, 10)", 0).due("sell(0, 0, 9)", 1);
        later.refused("complain(0)", Script.STATE);
        later.due("sell(0, 0, 1)", 2);
        later.refused("complain(0)", Script.STATE);
        later.due("complain(1)", 0);
        later.refused("complain(0)", Script.STATE);
        later.due("complain(2)", 0).due("complain(0)", 0).due("cash(0)", 1000);
    }

    /** "at some time": parts that came later do not help. */
    private static void itIsRefusedIfPartsLackAtSomeTime() {
        Script script = client("sales between").due("buy(0, 0, 10)", 0).due("sell(0, 0, 10)", 1)
                .due("buy(0, 0, 10)", 2).due("sell(0, 0, 10)", 3).due("buy(0, 0, 500)", 4);
        script.refused("complain(0)", Script.STATE);
        script.refused("complain(2)", Script.STATE);
        script.due("complain(1)", 0);
        // Now there are 10 parts for the one sale that stands, by either trade.
        script.due("complain(0)", 0);
        script.refused("complain(2)", Script.STATE);
        script.due("complain(4)", 0).due("complain(3)", 0).due("complain(2)", 0).due("cash(0)", 1000);
        Script one = client("one part too few in between").due("buy(0, 0, 10)", 0).due("buy(0, 0, 10)", 1)
                .due("sell(0, 0, 11)", 2).due("buy(0, 0, 10)", 3).due("sell(0, 0, 5)", 4);
        one.refused("complain(0)", Script.STATE);
        one.refused("complain(1)", Script.STATE);
        one.due("complain(3)", 0);
        one.refused("complain(0)", Script.STATE);
        // The same day or another, the number of the trade tells which was earlier.
        Script days = client("sales of other days").due("buy(0, 0, 10)", 0).due("pass(1)", 1)
                .due("sell(0, 0, 10)", 1).due("pass(1)", 2).due("buy(0, 0, 10)", 2);
        days.refused("complain(0)", Script.STATE);
        days.due("complain(2)", 0);
    }

    /** "All lots, gains, and taxes of that client are found anew" */
    private static void lotsAreFoundAnew() {
        Script script = client("lots of 10 for 10, 20 and 30").due("buy(0, 0, 10)", 0).due("price(0, 2000)", 1000)
                .due("buy(0, 0, 20)", 1).due("price(0, 3000)", 2000).due("buy(0, 0, 30)", 2)
                .due("sell(0, 0, 15)", 3).due("year(0, 0, 0)", 45 - 20).due("lot(0, 0, 0, 0)", 1)
                .due("lot(0, 0, 0, 1)", 5).due("lot(0, 0, 0, 2)", 10);
        // Without the second lot, five parts are of the third.
        script.due("complain(1)", 0).due("year(0, 0, 0)", 45 - 10 - 15).due("lot(0, 0, 0, 0)", 2)
                .due("lot(0, 0, 0, 1)", 5).due("lot(0, 0, 0, 2)", 15).due("lot(0, 0, 1, 0)", -1);
        script.refused("complain(0)", Script.STATE);
        script.refused("complain(2)", Script.STATE);
        script.due("complain(3)", 0).due("year(0, 0, 0)", 0).due("lot(0, 0, 0, 1)", 10).due("lot(0, 0, 1, 1)", 10);
    }

    /** Two trades of a gain of 8, and then the complaint about the sale. */
    private static void taxesOfYearsThatHaveEndedComeBack() {
        int[] days = {1, 359, 360, 361, 400};
        int[] back = {0, 0, 2, 2, 2};
        for (int i = 0; i < days.length; i++) {
            Script script = Gains.make(client("a complaint on the day " + days[i]), 0, 8)
                    .due("pass(" + days[i] + ")", days[i]).due("year(0, 0, 3)", back[i]).due("complain(1)", back[i]);
            Gains.check(script, 0, 0, 0, 0, 0).due("cash(0)", 950).due("pass(359)", days[i] + 359).due("cash(0)", 950);
        }
    }

    /** Gains of 4 and 1: a tax of 1 with both, and with the first alone. */
    private static void taxesStayIfTheQuarterIsTheSame() {
        Script one = Gains.make(Gains.make(client("a gain of 5"), 0, 4), 0, 1).due("pass(360)", 360);
        Gains.check(one, 0, 5, 5, 1, 1).due("complain(3)", 0);
        Gains.check(one, 0, 4, 4, 1, 1).due("complain(1)", 1);
        Gains.check(one, 0, 0, 0, 0, 0);
        Script other = Gains.make(Gains.make(client("a gain of 5, the other way"), 0, 4), 0, 1).due("pass(360)", 360)
                .due("complain(1)", 1);
        Gains.check(other, 0, 1, 1, 0, 0);
    }

    /** Gains of 4 and -1: no tax with both, and 1 with the first alone. */
    private static void taxesOfYearsThatHaveEndedAreTaken() {
        Script script = Gains.make(Gains.make(client("a gain of 3"), 0, 4), 0, -1).due("pass(360)", 360);
        Gains.check(script, 0, 3, 3, 0, 0).due("cash(0)", 1003).due("complain(3)", -1);
        Gains.check(script, 0, 4, 4, 1, 1).due("cash(0)", 1003 - 49 - 1).due("complain(1)", 1);
        Script early = Gains.make(Gains.make(client("a gain of 3 of this year"), 0, 4), 0, -1).due("pass(359)", 359)
                .due("complain(3)", 0);
        Gains.check(early, 0, 4, 4, 1, 0).due("pass(1)", 360);
        Gains.check(early, 0, 4, 4, 1, 1);
    }

    /** A loss of 8, then a gain of 12, each in a year of its own; the second year has ended, or not. */
    private static void taxesOfALaterYearAreFoundAnew() {
        for (int days = 359; days <= 360; days++) {
            Script script = Gains.make(client("a loss, and " + days + " days"), 0, -8).due("pass(360)", 360);
            Gains.make(script, 0, 12).due("pass(" + days + ")", 360 + days);
            boolean ended = days == 360;
            Gains.check(script, 1, 12, 4, 1, ended ? 1 : 0).due("complain(1)", ended ? -2 : 0);
            Gains.check(script, 0, 0, 0, 0, 0);
            Gains.check(script, 1, 12, 12, 3, ended ? 3 : 0);
            script.due("pass(1)", 361 + days);
            Gains.check(script, 1, 12, 12, 3, 3);
        }
    }

    /** A loss of 40 that gains of 8 use up in five years, just so; without it, five more taxes of 2 are due. */
    private static void taxesOfManyYearsAreFoundAnew() {
        Script script = Gains.make(client("all years"), 0, -40).due("pass(360)", 360);
        for (int year = 1; year < 20; year++) {
            Gains.make(script, 0, 8).due("pass(360)", 360 * year + 360);
        }
        script.due("cash(0)", 1000 - 40 + 19 * 8 - 14 * 2).due("complain(1)", -10)
                .due("cash(0)", 1000 - 50 + 19 * 8 - 19 * 2);
        Gains.check(script, 0, 0, 0, 0, 0);
        for (int year = 1; year < 20; year++) {
            Gains.check(script, year, 8, 8, 2, 2);
        }
        Gains.check(script, 20, 0, 0, 0, 0);
    }

    private static void theLastDayOfTheHouse() {
        Script script = client("the day 7200");
        for (int day = 360; day <= 6840; day += 360) {
            script.due("pass(360)", day);
        }
        Gains.make(script, 0, 8).due("pass(360)", 7200);
        Gains.make(script, 0, 8).due("cash(0)", 1014).due("complain(3)", 0).due("complain(1)", 2)
                .due("cash(0)", 900).due("parts(0, 0)", 100);
        Gains.check(script, 19, 0, 0, 0, 0);
        Gains.check(script, 20, 0, 0, 0, 0);
    }

    /** Cash "may be below 0 by taxes and complaints". */
    private static void taxesTakenMayLeaveADebt() {
        Script script = Gains.make(Gains.make(client("a debt by a complaint"), 0, 4), 0, -1).due("pass(360)", 360)
                .due("pay(0, -1003)", 0).due("complain(3)", -1).due("cash(0)", -50).due("complain(2)", 0)
                .due("cash(0)", 0);
        script.refused("pay(0, -1)", Script.STATE);
    }
}
