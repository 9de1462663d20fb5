/** What the document's "Lots, gains, taxes" says, sentence by sentence, at its edges. */
public final class EdgesLotsTaxesTest {
    public static void main(String[] args) {
        eachTradeThatStandsIsALot();
        lotsAreRankedFrom0();
        salesTakeTheEarliestLotFirst();
        theCostTakenIsCut();
        theCostTakenIsThatOfThePartsThatAreLeft();
        allPartsTakeAllTheCost();
        theGainOfASale();
        theGainOfAYear();
        theTaxIsAQuarterThatIsCut();
        aLossIsCarried();
        aYearEndsOnTheFirstDayOfTheNext();
        eachClientPays();
        aPassMayEndTwoYears();
        theTaxOfAYearThatHasNotEnded();
        Script.end();
    }

    /** At a price of 1000, at which a part costs a cent. */
    private static Script client(String about) {
        return new Script(about).due("client()", 0).due("pay(0, 1000)", 1000).due("price(0, 1000)", 10000);
    }

    private static Script lot(Script script, int rank, long trade, long parts, long cost) {
        return script.due("lot(0, 0, " + rank + ", 0)", trade).due("lot(0, 0, " + rank + ", 1)", parts)
                .due("lot(0, 0, " + rank + ", 2)", cost);
    }

    private static Script noLot(Script script, int rank) {
        return lot(script, rank, -1, -1, -1);
    }

    /** "Each trade that stands by which a client bought a fund is a lot, with its parts and its cost, amount and costs" */
    private static void eachTradeThatStandsIsALot() {
        Script script = noLot(client("lots"), 0).due("buy(0, 0, 100)", 0);
        noLot(lot(script, 0, 0, 100, 101), 1);
        // 199 of 999 are due.
        script.due("goal(0, 0, 20)", 20).due("balance(0)", 1);
        noLot(lot(lot(script, 0, 0, 100, 101), 1, 1, 99, 99), 2);
        script.due("complain(0)", 0);
        noLot(lot(script, 0, 1, 99, 99), 1);
        // The amount of which the parts were cut counts whole.
        script.due("price(0, 999)", 1000).due("buy(0, 0, 100)", 2);
        noLot(lot(lot(script, 0, 1, 99, 99), 1, 2, 100, 101), 2);
        script.due("complain(2)", 0).due("complain(1)", 0);
        noLot(script, 0);
    }

    /** "rank: 0 for that of the earliest trade"; "-1 if there are not so many" */
    private static void lotsAreRankedFrom0() {
        Script script = client("119 lots");
        for (int trade = 0; trade < 119; trade++) {
            script.due("buy(0, 0, 1)", trade);
        }
        noLot(lot(lot(lot(script, 0, 0, 1, 1), 1, 1, 1, 1), 118, 118, 1, 1), 119);
        script.refused("lot(0, 0, -1, 0)", Script.INDEX);
        // The 118 earliest are sold.
        script.due("sell(0, 0, 118)", 119);
        noLot(lot(script, 0, 118, 1, 1), 1);
        noLot(script, 118);
    }

    /** "the earliest trade first": of two lots of 100 parts for 101. */
    private static void salesTakeTheEarliestLotFirst() {
        int[] sold = {1, 99, 100, 101, 199, 200};
        int[] gains = {0, 0, 99 - 101, 100 - 102, 198 - 200, 198 - 202};
        int[] trades = {0, 0, 1, 1, 1, -1};
        int[] parts = {99, 1, 100, 99, 1, -1};
        int[] costs = {100, 2, 101, 100, 2, -1};
        for (int i = 0; i < sold.length; i++) {
            Script script = client(sold[i] + " of two lots").due("buy(0, 0, 100)", 0).due("buy(0, 0, 100)", 1)
                    .due("sell(0, 0, " + sold[i] + ")", 2).due("year(0, 0, 0)", gains[i]);
            lot(script, 0, trades[i], parts[i], costs[i]);
            if (trades[i] == 0) {
                lot(script, 1, 1, 100, 101);
            } else {
                noLot(script, 1);
            }
        }
    }

    /** "which is the parts taken by the parts that are left in it, cut": of 3 parts for 2, and of 100 parts for 1. */
    private static void theCostTakenIsCut() {
        int[] sold = {1, 2, 3, 4, 5, 6};
        int[] costs = {0, 1, 2, 2, 3, 4};
        for (int i = 0; i < sold.length; i++) {
            client(sold[i] + " parts of lots of 3").due("price(0, 666)", 1000).due("buy(0, 0, 2)", 0)
                    .due("buy(0, 0, 2)", 1).due("tradeOf(0, 2)", 3).due("price(0, 1000)", 666)
                    .due("sell(0, 0, " + sold[i] + ")", 2).due("year(0, 0, 0)", sold[i] - costs[i]);
        }
        Script script = client("no cost for 99 parts").due("price(0, 10)", 1000).due("buy(0, 0, 1)", 0)
                .due("price(0, 1000)", 10).due("sell(0, 0, 99)", 1).due("year(0, 0, 0)", 99);
        lot(script, 0, 0, 1, 1).due("sell(0, 0, 1)", 2).due("year(0, 0, 0)", 99);
        noLot(script, 0);
    }

    /** Of 3 parts for 2 the first takes nothing, the second the half of what is left, the third all. */
    private static void theCostTakenIsThatOfThePartsThatAreLeft() {
        Script script = client("one part after the other").due("price(0, 666)", 1000).due("buy(0, 0, 2)", 0)
                .due("price(0, 1000)", 666).due("sell(0, 0, 1)", 1).due("year(0, 0, 0)", 1);
        lot(script, 0, 0, 2, 2).due("sell(0, 0, 1)", 2).due("year(0, 0, 0)", 1);
        lot(script, 0, 0, 1, 1).due("sell(0, 0, 1)", 3).due("year(0, 0, 0)", 1);
        noLot(script, 0);
    }

    /** "(all, if all are taken)": what is taken of a lot is its cost in the end, however it is cut. */
    private static void allPartsTakeAllTheCost() {
        for (int first = 1; first < 13; first++) {
            for (int second = 1; first + second < 14; second += 3) {
                Script script = client("13 parts as " + first + ", " + second + " and the others")
                        .due("price(0, 7000)", 1000).due("buy(0, 0, 96)", 0).due("tradeOf(0, 2)", 13)
                        .due("price(0, 1000)", 7000).due("sell(0, 0, " + first + ")", 1)
                        .due("sell(0, 0, " + second + ")", 2);
                if (first + second < 13) {
                    script.due("sell(0, 0, " + (13 - first - second) + ")", 3);
                }
                noLot(script, 0).due("year(0, 0, 0)", 13 - 96);
            }
        }
    }

    /** "The gain of the sale is what came to the cash, less what was taken of costs." */
    private static void theGainOfASale() {
        int[] gains = {-49, -2, -1, 0, 1, 2, 49};
        for (int gain : gains) {
            Gains.check(Gains.make(client("a gain of " + gain), 0, gain), 0, gain, Math.max(gain, 0),
                    Math.max(gain, 0) / 4, 0).due("cash(0)", 1000 + gain);
        }
        // Costs of 1 for buying, and of 2 for the sale.
        client("a gain with costs").due("buy(0, 0, 100)", 0).due("price(0, 2000)", 1000).due("sell(0, 0, 100)", 1)
                .due("year(0, 0, 0)", 200 - 2 - 101);
    }

    /** "The gain of a year are the gains of its sales together." */
    private static void theGainOfAYear() {
        Script script = client("gains together");
        Gains.check(script, 0, 0, 0, 0, 0);
        Gains.check(Gains.make(script, 0, 5), 0, 5, 5, 1, 0);
        Gains.check(Gains.make(script, 0, -5), 0, 0, 0, 0, 0);
        Gains.check(Gains.make(script, 0, -1), 0, -1, 0, 0, 0);
        Gains.check(Gains.make(script, 0, 1), 0, 0, 0, 0, 0);
        Gains.check(Gains.make(script, 0, 4), 0, 4, 4, 1, 0);
        // Buying alone gains nothing, nor does a price.
        script.make("price(0, 1000)").make("buy(0, 0, 100)").make("price(0, 50000)");
        Gains.check(script, 0, 4, 4, 1, 0);
        script.due("pass(360)", 360);
        Gains.check(script, 0, 4, 4, 1, 1);
        Gains.check(script, 1, 0, 0, 0, 0);
    }

    /** "The tax of a year is a quarter of its base, cut." */
    private static void theTaxIsAQuarterThatIsCut() {
        int[] gains = {-5, -4, -1, 0, 1, 3, 4, 5, 7, 8, 11, 12};
        int[] taxes = {0, 0, 0, 0, 0, 0, 1, 1, 1, 2, 2, 3};
        for (int i = 0; i < gains.length; i++) {
            Script script = Gains.make(client("the tax of a gain of " + gains[i]), 0, gains[i]);
            int base = Math.max(gains[i], 0);
            Gains.check(script, 0, gains[i], base, taxes[i], 0).due("cash(0)", 1000 + gains[i]).due("pass(360)", 360);
            Gains.check(script, 0, gains[i], base, taxes[i], taxes[i]).due("cash(0)", 1000 + gains[i] - taxes[i]);
        }
    }

    /** "if that is below 0, it is carried into the next year, and the base is 0" */
    private static void aLossIsCarried() {
        years(new int[] {-10, 9, 4}, new int[] {0, 0, 3});
        years(new int[] {-10, 9, 5}, new int[] {0, 0, 4});
        years(new int[] {-10, 10, 4}, new int[] {0, 0, 4});
        years(new int[] {-10, 11, 4}, new int[] {0, 1, 4});
        years(new int[] {-10, 14, 4}, new int[] {0, 4, 4});
        years(new int[] {-1, -1, 5}, new int[] {0, 0, 3});
        years(new int[] {-1, -1, 6}, new int[] {0, 0, 4});
        // A gain is not carried.
        years(new int[] {8, -10, 10, 4}, new int[] {8, 0, 0, 4});
        years(new int[] {3, 3, 3}, new int[] {3, 3, 3});
        years(new int[] {-9, 0, 0, 13, 4}, new int[] {0, 0, 0, 4, 4});
        years(new int[] {0, -4, 3, 1, 4}, new int[] {0, 0, 0, 0, 4});
        years(new int[] {-40, 8, 8, 8, 8, 8, 8, 8, 8, 8, 8, 8, 8, 8, 8, 8, 8, 8, 8, 8},
                new int[] {0, 0, 0, 0, 0, 0, 8, 8, 8, 8, 8, 8, 8, 8, 8, 8, 8, 8, 8, 8});
    }

    private static void years(int[] gains, int[] bases) {
        Script script = client(gains.length + " years, the first with a gain of " + gains[0]);
        long cash = 1000;
        for (int year = 0; year < gains.length; year++) {
            if (gains[year] != 0) {
                Gains.make(script, 0, gains[year]);
            }
            Gains.check(script, year, gains[year], bases[year], bases[year] / 4, 0);
            script.due("pass(360)", 360 * year + 360);
            Gains.check(script, year, gains[year], bases[year], bases[year] / 4, bases[year] / 4);
            cash += gains[year] - bases[year] / 4;
            script.due("cash(0)", cash);
        }
        if (gains.length < 20) {
            Gains.check(script, gains.length, 0, 0, 0, 0);
        }
    }

    /** "When a year ends (the first day of the next one comes)" */
    private static void aYearEndsOnTheFirstDayOfTheNext() {
        Gains.make(client("the last day of the first year"), 0, 8).due("pass(358)", 358).due("cash(0)", 1008)
                .due("pass(1)", 359).due("cash(0)", 1008).due("year(0, 0, 3)", 0)
                .due("pass(1)", 360).due("cash(0)", 1006).due("year(0, 0, 3)", 2)
                .due("pass(1)", 361).due("cash(0)", 1006).due("pass(358)", 719).due("cash(0)", 1006)
                .due("pass(1)", 720).due("cash(0)", 1006).due("year(0, 1, 3)", 0);
        Script script = client("the last year that ends");
        for (int day = 400; day <= 6800; day += 400) {
            script.due("pass(400)", day);
        }
        Gains.make(script.due("pass(399)", 7199), 0, 8).due("cash(0)", 1008).due("pass(1)", 7200).due("cash(0)", 1006)
                .due("year(0, 19, 3)", 2).due("year(0, 20, 3)", 0);
        // The year 20 does not end.
        Gains.check(Gains.make(script, 0, 8), 20, 8, 8, 2, 0).refused("pass(1)", Script.STATE);
    }

    /** "each client, by rising numbers, pays its tax" */
    private static void eachClientPays() {
        Script script = new Script("twelve clients who pay");
        for (int client = 0; client < 12; client++) {
            script.due("client()", client).due("pay(" + client + ", 1000)", 1000);
        }
        for (int client = 0; client < 12; client++) {
            Gains.make(script, client, 4 * client + 3);
        }
        script.due("pass(360)", 360);
        for (int client = 0; client < 12; client++) {
            script.due("cash(" + client + ")", 1000 + 4 * client + 3 - client).due("year(" + client + ", 0, 3)", client);
        }
    }

    private static void aPassMayEndTwoYears() {
        Script script = Gains.make(client("two years"), 0, -4).due("pass(359)", 359);
        Gains.make(script, 0, 3).due("pass(1)", 360);
        Gains.make(script, 0, 9).due("pass(359)", 719);
        Gains.check(script, 1, 9, 8, 2, 0).due("pass(400)", 1119);
        Gains.check(script, 1, 9, 8, 2, 2).due("cash(0)", 1000 - 4 + 3 + 9 - 2);
        Script both = client("two years in one pass").due("pass(320)", 320);
        Gains.make(both, 0, 9).due("pass(400)", 720);
        Gains.check(both, 0, 9, 9, 2, 2);
        Gains.check(both, 1, 0, 0, 0, 0).due("cash(0)", 1007);
    }

    /** "2 the tax as it is found now, also of a year that has not ended" */
    private static void theTaxOfAYearThatHasNotEnded() {
        Script script = Gains.make(client("a year that has not ended"), 0, 8);
        Gains.check(script, 0, 8, 8, 2, 0);
        Gains.check(Gains.make(script, 0, -5), 0, 3, 3, 0, 0);
        Gains.check(Gains.make(script, 0, 1), 0, 4, 4, 1, 0).due("cash(0)", 1004);
        // Of later years too, nothing is found yet, whatever is carried into them.
        Gains.make(script, 0, -20);
        for (int year = 1; year <= 20; year++) {
            Gains.check(script, year, 0, 0, 0, 0);
        }
    }
}
