/** Promise 1: a new house is open on the day 0, without clients. */
public final class Promise01NewObjectTest {
    public static void main(String[] args) {
        isEmpty();
        opensOnDayZero();
        isItsOwn();
        Script.end();
    }

    private static void isEmpty() {
        Script script = new Script("a new hall");
        script.due("cash(-1)", 0);
        for (int fund = 0; fund < 6; fund++) {
            script.due("units(" + fund + ")", 0);
            script.due("parts(-1, " + fund + ")", 0);
        }
        script.refused("cash(0)", Script.INDEX);
        script.refused("wealth(0)", Script.INDEX);
        script.refused("parts(0, 0)", Script.INDEX);
        script.refused("lot(0, 0, 0, 0)", Script.INDEX);
        script.refused("year(0, 0, 0)", Script.INDEX);
        script.refused("tradeOf(0, 0)", Script.INDEX);
        script.refused("pay(0, 0)", Script.INDEX);
        script.refused("goal(0, 0, 0)", Script.INDEX);
        script.refused("buy(0, 0, 1)", Script.INDEX);
        script.refused("sell(0, 0, 1)", Script.INDEX);
        script.refused("balance(0)", Script.INDEX);
        script.refused("complain(0)", Script.INDEX);
        for (int fund = 0; fund < 6; fund++) {
            script.due("price(" + fund + ", 10)", 10000);
        }
        script.due("client()", 0);
    }

    private static void opensOnDayZero() {
        new Script("the day of a new hall").due("pass(1)", 1);
        new Script("a trade on the first day").due("client()", 0).due("pay(0, 101)", 101).due("buy(0, 0, 100)", 0)
                .due("tradeOf(0, 5)", 0);
    }

    private static void isItsOwn() {
        SavingsHall one = new SavingsHall();
        SavingsHall other = new SavingsHall();
        one.client();
        one.price(0, 77);
        one.pass(5);
        new Script("a hall after others").due("client()", 0).due("price(0, 10)", 10000).due("pass(1)", 1);
        if (other.client() != 0 || other.price(0, 10) != 10000 || other.pass(1) != 1) {
            System.out.println("a hall shares its state with another");
            System.exit(1);
        }
    }
}
