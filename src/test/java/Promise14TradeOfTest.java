/** Promise 14: tradeOf returns something of a trade. */
public final class Promise14TradeOfTest {
    public static void main(String[] args) {
        tellsAll();
        isRefused();
        Script.end();
    }

    private static void tells(Script script, int trade, long... answers) {
        for (int what = 0; what < 7; what++) {
            script.due("tradeOf(" + trade + ", " + what + ")", answers[what]);
        }
    }

    private static void tellsAll() {
        Script script = new Script("trades").due("client()", 0).due("client()", 1).due("client()", 2)
                .due("pay(2, 50000)", 50000).due("pay(1, 50000)", 50000).due("pass(17)", 17)
                .due("buy(2, 4, 12345)", 0).due("pass(3)", 20).due("price(4, 23456)", 10000)
                .due("sell(2, 4, 1000)", 1).due("pass(400)", 420).due("buy(1, 0, 777)", 2);
        tells(script, 0, 2, 4, 1234, 12345, 61, 17, 1);
        tells(script, 1, 2, 4, -1000, 23456, 117, 20, 1);
        tells(script, 2, 1, 0, 77, 777, 7, 420, 1);
        script.due("price(4, 99)", 23456).make("complain(1)");
        tells(script, 0, 2, 4, 1234, 12345, 61, 17, 1);
        tells(script, 1, 2, 4, -1000, 23456, 117, 20, 0);
        script.due("complain(0)", 0);
        tells(script, 0, 2, 4, 1234, 12345, 61, 17, 0);
        tells(script, 2, 1, 0, 77, 777, 7, 420, 1);
    }

    private static void isRefused() {
        Script script = new Script("wrong questions for trades").due("client()", 0).due("pay(0, 101)", 101);
        script.refused("tradeOf(0, 0)", Script.INDEX);
        script.refused("tradeOf(0, 7)", Script.INDEX);
        script.due("buy(0, 0, 100)", 0).due("tradeOf(0, 0)", 0).due("tradeOf(0, 6)", 1);
        script.refused("tradeOf(1, 0)", Script.INDEX);
        script.refused("tradeOf(-1, 0)", Script.INDEX);
        script.refused("tradeOf(1, 7)", Script.INDEX);
        script.refused("tradeOf(-1, -1)", Script.INDEX);
        script.refused("tradeOf(2147483647, 0)", Script.INDEX);
        script.refused("tradeOf(-2147483648, 0)", Script.INDEX);
        script.refused("tradeOf(0, 7)", Script.ARGUMENT);
        script.refused("tradeOf(0, -1)", Script.ARGUMENT);
        script.refused("tradeOf(0, 2147483647)", Script.ARGUMENT);
        script.refused("tradeOf(0, -2147483648)", Script.ARGUMENT);
        script.refused("buy(0, 0, 100)", Script.STATE);
        script.refused("tradeOf(1, 0)", Script.INDEX);
    }
}
