/** What the document's "Funds, clients" says, sentence by sentence, at its edges. */
public final class EdgesFundsClientsTest {
    /** Each call of a fund, with # in its place. */
    private static final String[] CALLS_OF_A_FUND = {
        "price(#, 10000)", "goal(0, #, 0)", "buy(0, #, 10)", "sell(0, #, 1)", "parts(0, #)", "parts(-1, #)", "units(#)",
        "lot(0, #, 0, 0)",
    };
    /** Each call of a client that can be made by one that has 1000 cents and 10 parts of fund 0. */
    private static final String[] CALLS_OF_A_CLIENT = {
        "pay(#, 1)", "goal(#, 0, 0)", "buy(#, 0, 10)", "sell(#, 0, 1)", "balance(#)", "cash(#)", "parts(#, 0)",
        "lot(#, 0, 0, 0)", "year(#, 0, 0)", "wealth(#)",
    };
    private static final int[] NO_NUMBERS = {-2, 2147483647, -2147483648};

    public static void main(String[] args) {
        fundsAreNumberedFrom0To5();
        aPriceIs10000AtFirst();
        partsAreThousandths();
        clientsAreNumberedFrom0();
        thereAreAtMost12Clients();
        cashIs0AtFirst();
        cashIsBelow0ByTaxesAndComplaintsAlone();
        goalsAre0AtFirst();
        goalsAreTogetherAtMost100();
        aYearHas360Days();
        aHallIsUsedFor512Calls();
        Script.end();
    }

    private static String put(String call, int number) {
        return call.replace("#", String.valueOf(number));
    }

    /** "There are the funds 0 to 5" */
    private static void fundsAreNumberedFrom0To5() {
        for (String call : CALLS_OF_A_FUND) {
            Script script = new Script("funds").due("client()", 0).due("pay(0, 1000)", 1000)
                    .due("buy(0, 0, 10)", 0).due("buy(0, 5, 10)", 1).make(put(call, 0)).make(put(call, 5));
            script.refused(put(call, -1), Script.INDEX);
            script.refused(put(call, 6), Script.INDEX);
            for (int number : NO_NUMBERS) {
                script.refused(put(call, number), Script.INDEX);
            }
        }
    }

    /** "each with a price of a unit, 10000 cents at first" */
    private static void aPriceIs10000AtFirst() {
        for (int fund = 0; fund < 6; fund++) {
            Script script = new Script("the first price of " + fund).due("client()", 0).due("pay(0, 10)", 10);
            script.refused("buy(0, " + fund + ", 9)", Script.STATE);
            script.due("buy(0, " + fund + ", 10)", 0).due("tradeOf(0, 2)", 1).due("cash(-1)", 10 - 10000)
                    .due("wealth(0)", 10).due("price(" + fund + ", 9999)", 10000).due("wealth(0)", 9);
        }
    }

    /** "Parts are thousandths of units." */
    private static void partsAreThousandths() {
        new Script("parts of units").due("client()", 0).due("pay(0, 30000)", 30000)
                .due("buy(0, 1, 9990)", 0).due("parts(0, 1)", 999).due("parts(-1, 1)", 1).due("units(1)", 1)
                .due("buy(0, 1, 10)", 1).due("parts(0, 1)", 1000).due("parts(-1, 1)", 0).due("units(1)", 1)
                .due("buy(0, 1, 10)", 2).due("parts(0, 1)", 1001).due("parts(-1, 1)", 999).due("units(1)", 2);
    }

    /** "Clients are numbered from 0" */
    private static void clientsAreNumberedFrom0() {
        for (String call : CALLS_OF_A_CLIENT) {
            Script script = new Script("the first client");
            script.refused(put(call, 0), Script.INDEX);
            script.due("client()", 0).due("pay(0, 1000)", 1000).due("buy(0, 0, 100)", 0).make(put(call, 0));
            script.refused(put(call, 1), Script.INDEX);
            for (int number : NO_NUMBERS) {
                script.refused(put(call, number), Script.INDEX);
            }
        }
    }

    /** "at most 12" */
    private static void thereAreAtMost12Clients() {
        for (String call : CALLS_OF_A_CLIENT) {
            Script script = new Script("the last client");
            for (int client = 0; client < 11; client++) {
                script.due("client()", client);
            }
            script.refused(put(call, 11), Script.INDEX);
            script.due("client()", 11).due("pay(11, 1000)", 1000).due("buy(11, 0, 100)", 0);
            script.refused("client()", Script.STATE);
            script.make(put(call, 11));
            script.refused(put(call, 12), Script.INDEX);
            // Time makes no room for another.
            script.due("pass(400)", 400);
            script.refused("client()", Script.STATE);
        }
    }

    /** "a client has cash, in cents, 0 at first" */
    private static void cashIs0AtFirst() {
        Script script = new Script("the first cash").due("client()", 0).due("cash(0)", 0);
        script.refused("pay(0, -1)", Script.STATE);
        script.refused("buy(0, 0, 10)", Script.STATE);
        script.due("pay(0, 0)", 0).due("pay(0, 1)", 1).due("client()", 1).due("cash(1)", 0).due("cash(0)", 1);
        script.refused("pay(1, -1)", Script.STATE);
    }

    /** "which may be below 0 by taxes and complaints alone" */
    private static void cashIsBelow0ByTaxesAndComplaintsAlone() {
        Script pays = new Script("cash to pay out").due("client()", 0).due("pay(0, 100)", 100);
        pays.refused("pay(0, -101)", Script.STATE);
        pays.due("pay(0, -100)", 0);
        pays.refused("pay(0, -1)", Script.STATE);
        Script buys = new Script("cash to buy for").due("client()", 0).due("pay(0, 100)", 100);
        buys.refused("buy(0, 0, 100)", Script.STATE);
        buys.due("pay(0, 1)", 101).due("buy(0, 0, 100)", 0).due("cash(0)", 0);
        buys.refused("buy(0, 0, 10)", Script.STATE);
        new Script("cash to balance with").due("client()", 0).due("pay(0, 101)", 101).due("goal(0, 0, 100)", 100)
                // 101 less 1, and costs of 1.
                .due("balance(0)", 1).due("tradeOf(0, 3)", 100).due("cash(0)", 0)
                // The sale brings 99, and what lacks is 100.
                .due("goal(0, 0, 0)", 0).due("goal(0, 1, 100)", 100).due("balance(0)", 2).due("tradeOf(2, 3)", 99)
                .due("cash(0)", 0);
        // 50 parts for 50 are sold for 54: a tax of 1.
        Script taxes = new Script("cash below 0 by a tax").due("client()", 0).due("pay(0, 50)", 50)
                .due("price(0, 1000)", 10000).due("buy(0, 0, 50)", 0).due("price(0, 1080)", 1000)
                .due("sell(0, 0, 50)", 1).due("pay(0, -54)", 0).due("pass(359)", 359).due("cash(0)", 0)
                .due("pass(1)", 360).due("cash(0)", -1);
        taxes.refused("pay(0, -1)", Script.STATE);
        taxes.refused("buy(0, 0, 2)", Script.STATE);
        taxes.due("pay(0, 0)", -1).due("pay(0, 1)", 0);
        Script complains = new Script("cash below 0 by a complaint").due("client()", 0).due("pay(0, 10)", 10)
                .due("buy(0, 0, 10)", 0).due("sell(0, 0, 1)", 1).due("pay(0, -1)", 9).due("complain(1)", 0)
                .due("cash(0)", -1);
        complains.refused("pay(0, -1)", Script.STATE);
        complains.refused("buy(0, 0, 10)", Script.STATE);
        complains.due("pay(0, 0)", -1).due("complain(0)", 0).due("cash(0)", 9);
    }

    /** "a goal: for each fund so many hundredths, 0 at first" */
    private static void goalsAre0AtFirst() {
        Script script = new Script("first goals").due("client()", 0).due("pay(0, 10000)", 10000).due("balance(0)", 0);
        for (int fund = 0; fund < 6; fund++) {
            script.due("goal(0, " + fund + ", 0)", 0).due("goal(0, " + fund + ", 100)", 100)
                    .due("goal(0, " + fund + ", 0)", 0);
        }
    }

    /** "together at most 100" */
    private static void goalsAreTogetherAtMost100() {
        Script script = new Script("goals together").due("client()", 0).due("client()", 1).due("goal(1, 0, 100)", 100);
        for (int fund = 0; fund < 5; fund++) {
            script.due("goal(0, " + fund + ", 20)", 20 * fund + 20);
        }
        script.refused("goal(0, 5, 1)", Script.STATE);
        for (int fund = 0; fund < 5; fund++) {
            script.refused("goal(0, " + fund + ", 21)", Script.STATE);
        }
        script.due("goal(0, 5, 0)", 100).due("goal(0, 0, 20)", 100).due("goal(0, 0, 19)", 99);
        script.refused("goal(0, 5, 2)", Script.STATE);
        script.due("goal(0, 5, 1)", 100);
        script.refused("goal(1, 5, 1)", Script.STATE);
        script.due("goal(1, 0, 99)", 99).due("goal(1, 5, 1)", 100);
    }

    /** "Days are counted from 0; a year has 360." A sale on each of these days gains 0, but for the fund's rise by 1. */
    private static void aYearHas360Days() {
        int[] days = {0, 1, 359, 360, 361, 719, 720, 1079, 1080, 7199, 7200};
        int[] years = {0, 0, 0, 1, 1, 1, 2, 2, 3, 19, 20};
        for (int i = 0; i < days.length; i++) {
            Script script = new Script("the year of the day " + days[i]).due("client()", 0).due("pay(0, 50)", 50)
                    .due("price(0, 1000)", 10000).due("buy(0, 0, 50)", 0).due("price(0, 1020)", 1000);
            for (int day = 0; day < days[i]; ) {
                int step = Math.min(400, days[i] - day);
                day += step;
                script.due("pass(" + step + ")", day);
            }
            script.due("sell(0, 0, 50)", 1).due("tradeOf(0, 5)", 0).due("tradeOf(1, 5)", days[i]);
            for (int year = 0; year <= 20; year++) {
                script.due("year(0, " + year + ", 0)", year == years[i] ? 1 : 0);
            }
        }
    }

    /** "An object is used for at most 512 calls" */
    private static void aHallIsUsedFor512Calls() {
        Script script = new Script("512 calls").due("client()", 0);
        for (int i = 1; i <= 509; i++) {
            script.due("pay(0, 10000000)", 10000000L * i);
        }
        script.due("buy(0, 0, 10000000)", 0).due("cash(0)", 5090000000L - 10020000);
        Script asks = new Script("512 questions");
        for (int i = 0; i < 511; i++) {
            asks.due("cash(-1)", 0);
        }
        asks.onlyRefused("cash(0)", Script.INDEX);
    }
}
