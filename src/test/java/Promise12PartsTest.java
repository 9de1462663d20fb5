/** Promise 12: parts returns the parts that a client has, or the stock. */
public final class Promise12PartsTest {
    public static void main(String[] args) {
        tellsOfEach();
        isRefused();
        Script.end();
    }

    private static void tellsOfEach() {
        new Script("parts").due("client()", 0).due("client()", 1).due("pay(0, 100000)", 100000)
                .due("pay(1, 100000)", 100000).due("buy(0, 0, 12340)", 0).due("buy(1, 0, 560)", 1)
                .due("buy(1, 5, 7000)", 2)
                .due("parts(0, 0)", 1234).due("parts(1, 0)", 56).due("parts(-1, 0)", 710).due("parts(1, 5)", 700)
                .due("parts(0, 5)", 0).due("parts(-1, 5)", 300).due("parts(-1, 1)", 0)
                .due("sell(0, 0, 234)", 3).due("parts(0, 0)", 1000).due("parts(1, 0)", 56).due("parts(-1, 0)", 944)
                .due("complain(1)", 0).due("parts(1, 0)", 0).due("parts(-1, 0)", 1000).due("pass(1)", 1)
                .due("parts(-1, 0)", 0).due("parts(0, 0)", 1000);
    }

    private static void isRefused() {
        Script script = new Script("parts of nobody").due("parts(-1, 5)", 0);
        script.refused("parts(0, 0)", Script.INDEX);
        script.refused("parts(-1, 6)", Script.INDEX);
        script.refused("parts(-1, -1)", Script.INDEX);
        script.refused("parts(-2, 0)", Script.INDEX);
        script.due("client()", 0).due("parts(0, 5)", 0);
        script.refused("parts(1, 0)", Script.INDEX);
        script.refused("parts(0, 6)", Script.INDEX);
        script.refused("parts(0, -1)", Script.INDEX);
        script.refused("parts(2147483647, 0)", Script.INDEX);
        script.refused("parts(-2147483648, 0)", Script.INDEX);
        script.refused("parts(0, 2147483647)", Script.INDEX);
        script.refused("parts(0, -2147483648)", Script.INDEX);
    }
}
