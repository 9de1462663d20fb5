import java.util.ArrayList;
import java.util.Arrays;
import java.util.List;

/**
 * Every call, with every choice of edge values for its arguments, in halls of several kinds: the answer is the model's,
 * a refused call changes nothing, and what another call brings about is the model's too.
 */
public final class EdgeValuesTest {
    private static final int LEAST = Integer.MIN_VALUE;
    private static final int MOST = Integer.MAX_VALUE;
    private static final int[] CLIENTS = {LEAST, -2, -1, 0, 1, 2, 11, 12, MOST};
    private static final int[] FUNDS = {LEAST, -1, 0, 1, 5, 6, MOST};
    private static final int[] TRADES = {LEAST, -1, 0, 1, 2, 3, 107, 108, 119, 120, MOST};
    private static final int[] FEW_TRADES = {LEAST, -1, 0, 1, 119, 120, MOST};
    private static final int[] PRICES = {LEAST, -1, 0, 9, 10, 1000000, 1000001, MOST};
    private static final int[] CENTS = {LEAST, -10000001, -10000000, -101, -100, -99, -1, 0, 1, 10000000, 10000001, MOST};
    private static final int[] HUNDREDTHS = {LEAST, -1, 0, 1, 40, 41, 60, 61, 100, 101, MOST};
    private static final int[] AMOUNTS = {LEAST, -1, 0, 1, 9, 10, 100, 9999, 10000, 99999, 100000, 10000000, 10000001, MOST};
    private static final int[] PARTS = {LEAST, -1, 0, 1, 9, 10, 11, 100, 1000, 1000000, 1000000000, 1000000001, MOST};
    private static final int[] DAYS = {LEAST, -1, 0, 1, 2, 359, 360, 361, 400, 401, MOST};
    private static final int[] RANKS = {LEAST, -1, 0, 1, 2, 117, 118, MOST};
    private static final int[] YEARS = {LEAST, -1, 0, 1, 2, 19, 20, 21, MOST};
    private static final int[] WHATS = {LEAST, -1, 0, 1, 2, 3, 4, 5, 6, 7, MOST};

    private final String about;
    private final List<String> taken = new ArrayList<>();
    private Probes probes;
    private Model model;
    private static int compared;
    private static boolean wrong;

    private EdgeValuesTest(String about, String... calls) {
        this.about = about;
        this.taken.addAll(Arrays.asList(calls));
    }

    public static void main(String[] args) {
        for (EdgeValuesTest hall : halls()) {
            hall.compareAll();
        }
        System.out.println(compared + " calls with edge values, " + (wrong ? "some are wrong" : "0 wrong"));
        if (wrong) {
            System.exit(1);
        }
    }

    private static List<EdgeValuesTest> halls() {
        List<EdgeValuesTest> halls = new ArrayList<>();
        halls.add(new EdgeValuesTest("a new hall"));
        halls.add(new EdgeValuesTest("a client with nothing", "client()"));
        halls.add(new EdgeValuesTest("cash and a goal", "client()", "client()", "pay(0, 100)", "goal(0, 0, 60)"));
        halls.add(new EdgeValuesTest("lots and sales", "client()", "client()", "pay(0, 10000000)", "pay(1, 101)",
                "buy(0, 0, 100)", "buy(0, 0, 100)", "buy(1, 0, 100)", "price(0, 20000)", "sell(0, 0, 11)",
                "goal(0, 0, 40)", "goal(0, 1, 20)", "pass(359)"));
        halls.add(new EdgeValuesTest("a debtor", "client()", "pay(0, 10050)", "buy(0, 0, 10000)", "price(0, 1000000)",
                "sell(0, 0, 990)", "pay(0, -988020)", "pass(360)", "price(0, 1000)"));
        halls.add(new EdgeValuesTest("great amounts", "client()", "pay(0, 10000000)", "pay(0, 10000000)", "price(0, 10)",
                "buy(0, 0, 9970000)", "price(0, 1000000)", "sell(0, 0, 1000)", "goal(0, 1, 1)"));
        EdgeValuesTest many = new EdgeValuesTest("108 trades", "client()", "client()", "pay(0, 1180)", "goal(0, 1, 60)");
        many.repeat("buy(0, 0, 10)", 108);
        halls.add(many);
        EdgeValuesTest more = new EdgeValuesTest("109 trades", "client()", "client()", "pay(0, 1190)", "goal(0, 1, 60)");
        more.repeat("buy(0, 0, 10)", 109);
        halls.add(more);
        EdgeValuesTest full = new EdgeValuesTest("a full hall");
        full.repeat("client()", 12);
        full.repeat("pay(0, 1280)", 1);
        full.repeat("buy(0, 0, 10)", 118);
        full.repeat("sell(0, 0, 1)", 1);
        full.repeat("buy(0, 0, 10)", 1);
        full.repeat("pass(400)", 18);
        halls.add(full);
        EdgeValuesTest late = new EdgeValuesTest("the day before the last", "client()", "pay(0, 1000)", "buy(0, 0, 100)",
                "price(0, 20000)", "sell(0, 0, 9)");
        late.repeat("pass(400)", 17);
        late.repeat("pass(399)", 1);
        halls.add(late);
        return halls;
    }

    private void repeat(String call, int times) {
        for (int i = 0; i < times; i++) {
            taken.add(call);
        }
    }

    private void compareAll() {
        checkThatAllIsTaken();
        probes = new Probes(taken);
        compare("client");
        compare("price", FUNDS, PRICES);
        compare("pay", CLIENTS, CENTS);
        compare("goal", CLIENTS, FUNDS, HUNDREDTHS);
        compare("buy", CLIENTS, FUNDS, AMOUNTS);
        compare("sell", CLIENTS, FUNDS, PARTS);
        compare("balance", CLIENTS);
        compare("complain", TRADES);
        compare("pass", DAYS);
        compare("cash", CLIENTS);
        compare("parts", CLIENTS, FUNDS);
        compare("units", FUNDS);
        compare("tradeOf", FEW_TRADES, WHATS);
        compare("lot", CLIENTS, new int[] {-1, 0, 5, 6}, RANKS, new int[] {-1, 0, 1, 2, 3});
        compare("year", CLIENTS, YEARS, WHATS);
        compare("wealth", CLIENTS);
    }

    private void checkThatAllIsTaken() {
        SavingsHall hall = new SavingsHall();
        for (String call : taken) {
            if (Calls.answer(hall, call).contains("Exception")) {
                report(call + " is refused");
            }
        }
    }

    /** All choices of one value for each argument. */
    private void compare(String name, int[]... values) {
        Object[] arguments = new Object[values.length];
        int choices = 1;
        for (int[] some : values) {
            choices *= some.length;
        }
        for (int choice = 0; choice < choices; choice++) {
            int rest = choice;
            for (int i = 0; i < values.length; i++) {
                arguments[i] = values[i][rest % values[i].length];
                rest /= values[i].length;
            }
            compareCall(name, arguments);
        }
    }

    private void compareCall(String name, Object[] arguments) {
        if (model == null) {
            model = new Model();
            taken.forEach(call -> Calls.answer(model, call));
        }
        SavingsHall hall = new SavingsHall();
        taken.forEach(call -> Calls.answer(hall, call));
        String text = Arrays.toString(arguments).replace('[', '(').replace(']', ')');
        String want = Calls.answer(model, name, arguments);
        compareAnswers(name + text, Calls.answer(hall, name, arguments), want);
        if (!changes(name)) {
            return;
        }
        if (want.startsWith("throws.")) {
            String changes = probes.changesBy(name + text);
            if (!changes.isEmpty()) {
                report(name + text + " is refused, but then " + changes);
            }
        } else {
            compareState(name + text, hall);
            model = null;
        }
    }

    private static boolean changes(String name) {
        return Arrays.asList("client", "price", "pay", "goal", "buy", "sell", "balance", "complain", "pass").contains(name);
    }

    private void compareState(String call, SavingsHall hall) {
        List<String> questions = new ArrayList<>();
        for (int client = -1; client < 3; client++) {
            questions.add("cash(" + client + ")");
            questions.add("wealth(" + client + ")");
            for (int fund = 0; fund < 6; fund += fund == 1 ? 4 : 1) {
                questions.add("parts(" + client + ", " + fund + ")");
                questions.add("lot(" + client + ", " + fund + ", 0, 2)");
                questions.add("units(" + fund + ")");
            }
            for (int year = 0; year < 21; year++) {
                questions.add("year(" + client + ", " + year + ", 0)");
                questions.add("year(" + client + ", " + year + ", 3)");
            }
        }
        for (int trade = 0; trade < 120; trade += trade == 4 ? 100 : 1) {
            questions.add("tradeOf(" + trade + ", 3)");
            questions.add("tradeOf(" + trade + ", 6)");
        }
        for (String question : questions) {
            compareAnswers(question + " after " + call, Calls.answer(hall, question), Calls.answer(model, question));
        }
    }

    private void compareAnswers(String call, String got, String want) {
        compared++;
        if (!got.equals(want)) {
            report(call + " answered " + got + ", due is " + want);
        }
    }

    private void report(String what) {
        wrong = true;
        System.out.println(about + ": " + what);
    }
}
