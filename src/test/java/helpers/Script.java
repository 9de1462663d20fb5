import java.util.ArrayList;
import java.util.List;

/**
 * A run of calls on a new hall, each with the answer that is due. Of a call that is refused it is tested, too,
 * that it changes nothing: two other halls, one with that call and one without, are asked for all that can be asked.
 */
final class Script {
    static final String INDEX = "throws.IndexOutOfBoundsException";
    static final String ARGUMENT = "throws.IllegalArgumentException";
    static final String STATE = "throws.IllegalStateException";
    private static final int MOST_CALLS = 512;
    private static final List<String> PROBES = probes();
    private static int wrong;
    private static int compared;

    private final String about;
    private final SavingsHall hall = new SavingsHall();
    private final List<String> taken = new ArrayList<>();
    private int made;

    Script(String about) {
        this.about = about;
    }

    Script due(String call, long answer) {
        compare(call, ask(call), String.valueOf(answer));
        taken.add(call);
        return this;
    }

    Script refused(String call, String exception) {
        compare(call, ask(call), exception);
        for (int from = 0; from < PROBES.size(); ) {
            int to = Math.min(PROBES.size(), from + MOST_CALLS - taken.size() - 1);
            if (to <= from) {
                throw new AssertionError(about + ": too long a run to look for changes");
            }
            compareTwins(call, PROBES.subList(from, to));
            from = to;
        }
        return this;
    }

    /** As refused, for a run that leaves no calls to look for changes with. */
    Script onlyRefused(String call, String exception) {
        compare(call, ask(call), exception);
        return this;
    }

    /** Makes a call of which the answer does not matter here. */
    Script make(String call) {
        if (ask(call).contains("Exception")) {
            report(call + " throws");
        }
        taken.add(call);
        return this;
    }

    static void end() {
        System.out.println(compared + " answers compared, " + wrong + " wrong");
        if (wrong != 0) {
            System.exit(1);
        }
    }

    private String ask(String call) {
        made++;
        if (made > MOST_CALLS) {
            throw new AssertionError(about + ": more calls than a hall is used for");
        }
        return Calls.answer(hall, call);
    }

    private void compare(String call, String got, String want) {
        compared++;
        if (!got.equals(want)) {
            report(call + " answered " + got + ", due is " + want);
        }
    }

    private void report(String what) {
        wrong++;
        System.out.println(about + ": " + what);
    }

    private void compareTwins(String call, List<String> probes) {
        SavingsHall with = twin();
        SavingsHall without = twin();
        Calls.answer(with, call);
        for (String probe : probes) {
            String got = Calls.answer(with, probe);
            String want = Calls.answer(without, probe);
            if (!got.equals(want)) {
                report("after the refused " + call + ", " + probe + " answers " + got + " instead of " + want);
            }
        }
    }

    private SavingsHall twin() {
        SavingsHall twin = new SavingsHall();
        for (String call : taken) {
            Calls.answer(twin, call);
        }
        return twin;
    }

    /** All that can be asked, and then calls that show what cannot: prices, goals and the day. */
    private static List<String> probes() {
        List<String> probes = new ArrayList<>();
        for (int fund = 0; fund < 6; fund++) {
            probes.add("units(" + fund + ")");
            for (int client = -1; client < 3; client++) {
                probes.add("parts(" + client + ", " + fund + ")");
                for (int what = 0; client >= 0 && what < 3; what++) {
                    probes.add("lot(" + client + ", " + fund + ", 0, " + what + ")");
                    probes.add("lot(" + client + ", " + fund + ", 1, " + what + ")");
                }
            }
        }
        for (int client = -1; client < 13; client++) {
            probes.add("cash(" + client + ")");
            probes.add("wealth(" + client + ")");
        }
        for (int client = 0; client < 3; client++) {
            for (int year = 0; year < 21; year++) {
                probes.add("year(" + client + ", " + year + ", 0)");
                probes.add("year(" + client + ", " + year + ", 1)");
                probes.add("year(" + client + ", " + year + ", 3)");
            }
        }
        for (int trade = 0; trade < 8; trade++) {
            for (int what = 0; what < 7; what++) {
                probes.add("tradeOf(" + trade + ", " + what + ")");
            }
        }
        probes.add("tradeOf(119, 0)");
        for (int fund = 0; fund < 6; fund++) {
            probes.add("price(" + fund + ", 10000)");
            probes.add("goal(0, " + fund + ", 0)");
            probes.add("goal(1, " + fund + ", 0)");
        }
        probes.add("pass(1)");
        probes.add("client()");
        return probes;
    }
}
