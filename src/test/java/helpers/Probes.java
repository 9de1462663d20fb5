import java.util.ArrayList;
import java.util.HashSet;
import java.util.List;
import java.util.Set;

/** Looks whether a call changed something: other halls, with that call and without, are asked for all that can be asked. */
final class Probes {
    private static final int MOST_CALLS = 512;
    private static final List<String> ALL = all();

    private final List<String> taken;
    private final List<String> asked;
    private final List<String> unchanged;

    /** Of a hall on which these calls were made. */
    Probes(List<String> taken) {
        this.taken = new ArrayList<>(taken);
        this.asked = worthAsking(answers(null, ALL));
        this.unchanged = answers(null, asked);
    }

    /** What changes, as a text; empty if nothing does. */
    String changesBy(String call) {
        List<String> changed = answers(call, asked);
        for (int i = 0; i < asked.size(); i++) {
            if (!changed.get(i).equals(unchanged.get(i))) {
                return asked.get(i) + " answers " + changed.get(i) + " instead of " + unchanged.get(i);
            }
        }
        return "";
    }

    /** Of the questions of a method that are refused the first one will do, of the client or trade that would come next. */
    private static List<String> worthAsking(List<String> answers) {
        List<String> worth = new ArrayList<>();
        Set<String> refused = new HashSet<>();
        for (int i = 0; i < ALL.size(); i++) {
            String method = ALL.get(i).substring(0, ALL.get(i).indexOf('('));
            if (!answers.get(i).contains("Exception") || refused.add(method)) {
                worth.add(ALL.get(i));
            }
        }
        return worth;
    }

    /** As a hall is used for 512 calls alone, more than one may be asked. */
    private List<String> answers(String call, List<String> questions) {
        int atOnce = MOST_CALLS - taken.size() - 1;
        if (atOnce < 1) {
            throw new AssertionError("too long a run to look for changes");
        }
        List<String> answers = new ArrayList<>();
        for (int from = 0; from < questions.size(); from += atOnce) {
            SavingsHall hall = twin();
            if (call != null) {
                Calls.answer(hall, call);
            }
            for (String probe : questions.subList(from, Math.min(questions.size(), from + atOnce))) {
                answers.add(Calls.answer(hall, probe));
            }
        }
        return answers;
    }

    private SavingsHall twin() {
        SavingsHall twin = new SavingsHall();
        for (String call : taken) {
            Calls.answer(twin, call);
        }
        return twin;
    }

    /** All that can be asked, and then calls that show what cannot: prices, goals and the day. */
    private static List<String> all() {
        List<String> probes = new ArrayList<>();
        for (int fund = 0; fund < 6; fund++) {
            probes.add("units(" + fund + ")");
            for (int client = -1; client < 3; client++) {
                probes.add("parts(" + client + ", " + fund + ")");
                for (int what = 0; client >= 0 && what < 3; what++) {
                    probes.add("lot(" + client + ", " + fund + ", 0, " + what + ")");
                    probes.add("lot(" + client + ", " + fund + ", 1, " + what + ")");
                }
            }
            probes.add("parts(11, " + fund + ")");
        }
        for (int client = -1; client < 13; client++) {
            probes.add("cash(" + client + ")");
            probes.add("wealth(" + client + ")");
        }
        for (int client = 0; client < 3; client++) {
            for (int year = 0; year < 21; year++) {
                probes.add("year(" + client + ", " + year + ", 0)");
                probes.add("year(" + client + ", " + year + ", 1)");
                probes.add("year(" + client + ", " + year + ", 3)");
            }
        }
        for (int trade = 0; trade < 8; trade++) {
            for (int what = 0; what < 6; what++) {
                probes.add("tradeOf(" + trade + ", " + what + ")");
            }
        }
        for (int trade = 0; trade < 120; trade++) {
            probes.add("tradeOf(" + trade + ", 6)");
        }
        for (int fund = 0; fund < 6; fund++) {
            probes.add("price(" + fund + ", 10000)");
            probes.add("goal(0, " + fund + ", 0)");
            probes.add("goal(1, " + fund + ", 0)");
        }
        probes.add("pass(1)");
        probes.add("client()");
        return probes;
    }
}
