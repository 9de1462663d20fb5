import java.util.ArrayList;
import java.util.List;

/** Long mixed runs of calls, each answered as the plain model answers it. */
public final class ModelTest {
    private static final int RUNS = 400;
    private static final int CALLS = 512;

    private long seed;
    private int clients;
    private int trades;
    private int tempo;
    private final List<String> made = new ArrayList<>();

    private ModelTest(long seed) {
        this.seed = seed;
    }

    public static void main(String[] args) {
        int compared = 0;
        for (int run = 0; run < RUNS; run++) {
            compared += new ModelTest(run).compareRun();
        }
        System.out.println(compared + " answers as the model's");
    }

    private int compareRun() {
        SavingsHall hall = new SavingsHall();
        Model model = new Model();
        tempo = below(4);
        for (int i = 0; i < CALLS; i++) {
            String call = i < 2 ? "client()" : nextCall();
            String got = Calls.answer(hall, call);
            String want = Calls.answer(model, call);
            made.add(call + " -> " + want);
            if (!got.equals(want)) {
                made.forEach(System.out::println);
                System.out.println("the last call answered " + got);
                System.exit(1);
            }
            remember(call, want);
        }
        return CALLS;
    }

    private void remember(String call, String answer) {
        if (answer.startsWith("throws.")) {
            return;
        }
        if (call.startsWith("client")) {
            clients++;
        } else if (call.startsWith("buy") || call.startsWith("sell")) {
            trades++;
        } else if (call.startsWith("balance")) {
            trades += Integer.parseInt(answer);
        }
    }

    private int below(int bound) {
        seed = seed * 6364136223846793005L + 1442695040888963407L;
        return (int) Math.floorMod((seed >>> 20) ^ (seed >>> 41), (long) bound);
    }

    private String nextCall() {
        switch (below(26)) {
            case 0: return "price(" + fund() + ", " + price() + ")";
            case 1: return below(8) == 0 ? "client()" : "price(" + fund() + ", " + price() + ")";
            case 2:
            case 3: return "pay(" + person() + ", " + cents() + ")";
            case 4: return "goal(" + person() + ", " + fund() + ", " + (below(20) == 0 ? below(120) - 10 : below(45)) + ")";
            case 5:
            case 6:
            case 7:
            case 8: return "buy(" + person() + ", " + fund() + ", " + size() + ")";
            case 9:
            case 10:
            case 11: return "sell(" + person() + ", " + fund() + ", " + size() + ")";
            case 12: return below(3) == 0 ? "balance(" + person() + ")" : "wealth(" + person() + ")";
            case 13:
            case 14: return "complain(" + trade() + ")";
            case 15: return "pass(" + days() + ")";
            case 16: return "cash(" + (person() - (below(3) == 0 ? 1 : 0)) + ")";
            case 17: return "parts(" + (person() - (below(2) == 0 ? 1 : 0)) + ", " + fund() + ")";
            case 18: return "units(" + fund() + ")";
            case 19: return "tradeOf(" + trade() + ", " + what(7) + ")";
            case 20:
            case 21:
            case 22: return "lot(" + person() + ", " + fund() + ", " + (below(6) - (below(9) == 0 ? 1 : 0)) + ", " + what(3) + ")";
            case 23:
            case 24: return "year(" + person() + ", " + (below(20) == 0 ? below(25) - 2 : below(6)) + ", " + what(4) + ")";
            default: return "wealth(" + person() + ")";
        }
    }

    private int person() {
        return below(30) == 0 ? below(16) - 2 : below(Math.max(1, Math.min(clients, 3)));
    }

    /** Few funds in most runs, so that their lots are many. */
    private int fund() {
        return below(40) == 0 ? below(9) - 1 : below(tempo < 2 ? 2 : 6);
    }

    private int trade() {
        return below(30) == 0 ? below(130) - 2 : below(Math.max(1, trades + 1));
    }

    private int what(int end) {
        return below(25) == 0 ? below(end + 3) - 1 : below(end);
    }

    private int price() {
        int[] special = {9, 10, 1000000, 1000001, 999, 1000, 10000};
        return below(6) == 0 ? special[below(special.length)] : tempo == 0 ? 10 + below(3000) : 5000 + below(20000);
    }

    private int cents() {
        int[] special = {-10000001, -10000000, 10000000, 10000001, 0, -1, 1};
        return below(5) == 0 ? special[below(special.length)] : below(tempo == 1 ? 20000 : 3000000) - 2000;
    }

    private int size() {
        int[] special = {0, 1, 9, 10, 9999, 10000, 99999, 100000, 10000000, 10000001, 1000000000, 1000000001};
        if (below(8) == 0) {
            return special[below(special.length)];
        }
        return 1 + below(new int[] {100, 5000, 20000, 300000}[below(4)]);
    }

    private int days() {
        int[] special = {0, 1, 400, 401, 360, 359, -1};
        return below(3) == 0 ? special[below(special.length)] : 1 + below(tempo == 3 ? 400 : 120);
    }
}
