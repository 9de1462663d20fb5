/** Promise 17: wealth returns the wealth of a client. */
public final class Promise17WealthTest {
    public static void main(String[] args) {
        addsUp();
        cutsFundByFund();
        isBelowZero();
        isGreat();
        isRefused();
        Script.end();
    }

    private static void addsUp() {
        new Script("wealth").due("client()", 0).due("client()", 1).due("wealth(0)", 0)
                .due("pay(0, 100000)", 100000).due("wealth(0)", 100000).due("buy(0, 0, 30000)", 0)
                .due("wealth(0)", 99850).due("buy(0, 5, 40000)", 1).due("wealth(0)", 99650)
                .due("price(5, 5000)", 10000).due("wealth(0)", 79650).due("price(0, 11000)", 10000)
                .due("wealth(0)", 82650).due("wealth(1)", 0).due("price(1, 99)", 10000).due("wealth(0)", 82650)
                .due("sell(0, 0, 3000)", 2).due("wealth(0)", 82485);
    }

    private static void cutsFundByFund() {
        Script script = new Script("wealth that is cut").due("client()", 0).due("pay(0, 60)", 60);
        for (int fund = 0; fund < 6; fund++) {
            script.due("buy(0, " + fund + ", 10)", fund);
        }
        for (int fund = 0; fund < 6; fund++) {
            script.due("price(" + fund + ", 1999)", 10000);
        }
        script.due("wealth(0)", 6).due("price(0, 999)", 1999).due("wealth(0)", 5).due("price(0, 2000)", 999)
                .due("wealth(0)", 7);
    }

    private static void isBelowZero() {
        new Script("wealth of a debtor").due("client()", 0).due("pay(0, 10050)", 10050).due("buy(0, 0, 10000)", 0)
                .due("sell(0, 0, 1000)", 1).due("pay(0, -9950)", 0).due("complain(1)", 0).due("wealth(0)", 50)
                .due("price(0, 10)", 10000).due("wealth(0)", -9940);
    }

    private static void isGreat() {
        new Script("a great wealth").due("client()", 0).due("pay(0, 10000000)", 10000000)
                .due("pay(0, 20007)", 10020007).due("price(4, 10)", 10000).due("buy(0, 4, 10000000)", 0)
                .due("price(4, 1000000)", 10).due("wealth(0)", 1000000000007L);
    }

    private static void isRefused() {
        Script script = new Script("wealth of nobody");
        script.refused("wealth(0)", Script.INDEX);
        script.refused("wealth(-1)", Script.INDEX);
        script.due("client()", 0).due("wealth(0)", 0);
        script.refused("wealth(1)", Script.INDEX);
        script.refused("wealth(-1)", Script.INDEX);
        script.refused("wealth(2147483647)", Script.INDEX);
        script.refused("wealth(-2147483648)", Script.INDEX);
    }
}
