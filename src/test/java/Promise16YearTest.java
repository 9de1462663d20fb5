/** Promise 16: year returns something of a year of a client. */
public final class Promise16YearTest {
    public static void main(String[] args) {
        tellsAll();
        addsUpSales();
        cutsTaxes();
        isRefused();
        Script.end();
    }

    private static void is(Script script, int year, long gain, long base, long tax, long paid) {
        script.due("year(0, " + year + ", 0)", gain).due("year(0, " + year + ", 1)", base)
                .due("year(0, " + year + ", 2)", tax).due("year(0, " + year + ", 3)", paid);
    }

    /** 5000 parts of a cost of 10050 for each 1000; gains of -9060, -5100, 9850, 9850 and 9850. */
    private static void tellsAll() {
        Script script = new Script("years").due("client()", 0).due("pay(0, 100000)", 100000)
                .due("buy(0, 0, 50000)", 0).due("price(0, 1000)", 10000).due("sell(0, 0, 1000)", 1);
        is(script, 0, -9060, 0, 0, 0);
        is(script, 1, 0, 0, 0, 0);
        script.due("pass(360)", 360).due("price(0, 5000)", 1000).due("sell(0, 0, 1000)", 2);
        is(script, 1, -5100, 0, 0, 0);
        // A year without sales hands on what is carried.
        script.due("pass(360)", 720).due("pass(360)", 1080).due("price(0, 20000)", 5000)
                .due("sell(0, 0, 1000)", 3).due("cash(0)", 100000 - 50250 + 990 + 4950 + 19900);
        is(script, 2, 0, 0, 0, 0);
        is(script, 3, 9850, 0, 0, 0);
        is(script, 4, 0, 0, 0, 0);
        script.due("pass(360)", 1440).due("sell(0, 0, 1000)", 4);
        // 9060 + 5100 - 9850 = 4310 are carried.
        is(script, 4, 9850, 5540, 1385, 0);
        is(script, 5, 0, 0, 0, 0);
        script.due("pass(360)", 1800).due("sell(0, 0, 1000)", 5);
        is(script, 4, 9850, 5540, 1385, 1385);
        is(script, 5, 9850, 9850, 2462, 0);
        script.due("pass(360)", 2160);
        is(script, 5, 9850, 9850, 2462, 2462);
        is(script, 20, 0, 0, 0, 0);
        // The loss of the first year came to nothing.
        script.due("complain(1)", -2264);
        is(script, 0, 0, 0, 0, 0);
        is(script, 1, -5100, 0, 0, 0);
        is(script, 3, 9850, 4750, 1187, 1187);
        is(script, 4, 9850, 9850, 2462, 2462);
        is(script, 5, 9850, 9850, 2462, 2462);
    }

    private static void addsUpSales() {
        Script script = new Script("many sales of a year").due("client()", 0).due("client()", 1)
                .due("pay(0, 100000)", 100000).due("pay(1, 100000)", 100000)
                .due("buy(0, 0, 10000)", 0).due("buy(0, 5, 10000)", 1).due("buy(1, 0, 20000)", 2)
                .due("price(0, 20000)", 10000).due("price(5, 4000)", 10000)
                .due("sell(0, 0, 1000)", 3).due("sell(0, 5, 1000)", 4);
        is(script, 0, 9850 - 6090, 3760, 940, 0);
        script.due("sell(1, 0, 1000)", 5);
        is(script, 0, 9850 - 6090, 3760, 940, 0);
        script.due("year(1, 0, 0)", 9850).due("year(1, 0, 2)", 2462);
    }

    private static void cutsTaxes() {
        int[] prices = {10152, 10153, 10154, 10155, 10156, 10157};
        int[] gains = {52, 53, 54, 55, 56, 57};
        int[] taxes = {13, 13, 13, 13, 14, 14};
        for (int i = 0; i < prices.length; i++) {
            Script script = new Script("the tax of " + gains[i]).due("client()", 0).due("pay(0, 20000)", 20000)
                    .due("buy(0, 0, 10000)", 0).due("price(0, " + prices[i] + ")", 10000).due("sell(0, 0, 1000)", 1);
            is(script, 0, gains[i], gains[i], taxes[i], 0);
            script.due("pass(400)", 400);
            is(script, 0, gains[i], gains[i], taxes[i], taxes[i]);
        }
    }

    private static void isRefused() {
        Script script = new Script("wrong questions for years");
        script.refused("year(0, 0, 0)", Script.INDEX);
        script.refused("year(-1, 0, 0)", Script.INDEX);
        script.due("client()", 0).due("year(0, 20, 0)", 0);
        script.refused("year(1, 0, 0)", Script.INDEX);
        script.refused("year(0, -1, 0)", Script.INDEX);
        script.refused("year(0, 21, 0)", Script.INDEX);
        script.refused("year(0, 2147483647, 0)", Script.INDEX);
        script.refused("year(0, -2147483648, 0)", Script.INDEX);
        script.refused("year(0, 21, 4)", Script.INDEX);
        script.refused("year(1, 0, -1)", Script.INDEX);
        script.refused("year(0, 0, 4)", Script.ARGUMENT);
        script.refused("year(0, 20, -1)", Script.ARGUMENT);
        script.refused("year(0, 0, 2147483647)", Script.ARGUMENT);
        script.refused("year(0, 0, -2147483648)", Script.ARGUMENT);
        script.due("year(0, 0, 3)", 0);
    }
}
