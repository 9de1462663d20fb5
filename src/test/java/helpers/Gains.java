/** Sales of a known gain. */
final class Gains {
    private Gains() {
    }

    /** Two trades: 50 parts for 50 cents, without costs, that are sold for so many more, or fewer, below 0. */
    static Script make(Script script, int client, int gain) {
        return script.make("price(0, 1000)").make("buy(" + client + ", 0, 50)")
                .make("price(0, " + (50 + gain) * 20 + ")").make("sell(" + client + ", 0, 50)");
    }

    static Script check(Script script, int year, long gain, long base, long tax, long paid) {
        return script.due("year(0, " + year + ", 0)", gain).due("year(0, " + year + ", 1)", base)
                .due("year(0, " + year + ", 2)", tax).due("year(0, " + year + ", 3)", paid);
    }
}
