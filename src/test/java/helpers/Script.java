import java.util.ArrayList;
import java.util.List;

/**
 * A run of calls on a new hall, each with the answer that is due. Of a call that is refused it is tested, too, that it
 * changes nothing.
 */
final class Script {
    static final String INDEX = "throws.IndexOutOfBoundsException";
    static final String ARGUMENT = "throws.IllegalArgumentException";
    static final String STATE = "throws.IllegalStateException";
    private static final int MOST_CALLS = 512;
    private static int wrong;
    private static int compared;

    private final String about;
    private final SavingsHall hall = new SavingsHall();
    private final List<String> taken = new ArrayList<>();
    /** Of the calls that were taken so far; null if they are to be made anew. */
    private Probes probes;
    private int made;

    Script(String about) {
        this.about = about;
    }

    Script due(String call, long answer) {
        compare(call, ask(call), String.valueOf(answer));
        return take(call);
    }

    Script refused(String call, String exception) {
        compare(call, ask(call), exception);
        if (probes == null) {
            probes = new Probes(taken);
        }
        String changes = probes.changesBy(call);
        if (!changes.isEmpty()) {
            report("after the refused " + call + ", " + changes);
        }
        return this;
    }

    /** As refused, for a run that leaves no calls to look for changes with. */
    Script onlyRefused(String call, String exception) {
        compare(call, ask(call), exception);
        return this;
    }

    /** Makes a call of which the answer does not matter here. */
    Script make(String call) {
        if (ask(call).contains("Exception")) {
            report(call + " throws");
        }
        return take(call);
    }

    private Script take(String call) {
        taken.add(call);
        probes = null;
        return this;
    }

    static void end() {
        System.out.println(compared + " answers compared, " + wrong + " wrong");
        if (wrong != 0) {
            System.exit(1);
        }
    }

    private String ask(String call) {
        made++;
        if (made > MOST_CALLS) {
            throw new AssertionError(about + ": more calls than a hall is used for");
        }
        return Calls.answer(hall, call);
    }

    private void compare(String call, String got, String want) {
        compared++;
        if (!got.equals(want)) {
            report(call + " answered " + got + ", due is " + want);
        }
    }

    private void report(String what) {
        wrong++;
        System.out.println(about + ": " + what);
    }
}
