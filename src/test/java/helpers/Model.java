import java.math.BigInteger;
import java.util.ArrayList;
import java.util.List;

/**
 * The house in a slow and plain form, to compare with: it remembers deals alone, and finds cash, parts, lots, gains
 * and taxes of a client anew from them whenever they are asked for, in numbers without a bound. Its methods are
 * called by their names, as those of SavingsHall.
 */
final class Model {
    private static final BigInteger THOUSAND = BigInteger.valueOf(1000);

    /** What of a client's cash changed, by payments, trades, complaints and taxes. */
    private static final class Person {
        final List<Long> cashMoves = new ArrayList<>();
        final long[] taxesTaken = new long[21];
        final int[] goals = new int[6];

        long cash() {
            return cashMoves.stream().mapToLong(Long::longValue).sum();
        }
    }

    private record Deal(int number, int person, int fund, boolean buys, long parts, long amount, long costs, int day) {
        long cents() {
            return buys ? amount + costs : amount - costs;
        }
    }

    /** A lot while deals are gone through. */
    private static final class Rest {
        final Deal deal;
        BigInteger parts;
        BigInteger cost;

        Rest(Deal deal) {
            this.deal = deal;
            this.parts = BigInteger.valueOf(deal.parts);
            this.cost = BigInteger.valueOf(deal.cents());
        }
    }

    /** What comes of going through the deals of a client that stand. */
    private static final class Story {
        final List<Rest> rests = new ArrayList<>();
        final long[] gains = new long[21];
        boolean lacksParts;
    }

    private final int[] prices = {10000, 10000, 10000, 10000, 10000, 10000};
    private final long[] bought = new long[6];
    private final List<Person> persons = new ArrayList<>();
    private final List<Deal> deals = new ArrayList<>();
    private final List<Integer> unwound = new ArrayList<>();
    private long house;
    private int day;

    int price(int fund, int price) {
        index(fund, 6);
        argument(price >= 10 && price <= 1000000);
        int was = prices[fund];
        prices[fund] = price;
        return was;
    }

    int client() {
        state(persons.size() != 12);
        persons.add(new Person());
        return persons.size() - 1;
    }

    long pay(int client, int cents) {
        index(client, persons.size());
        argument(Math.abs((long) cents) <= 10000000);
        state(cents >= 0 || cash(client) >= -cents);
        persons.get(client).cashMoves.add((long) cents);
        return cash(client);
    }

    int goal(int client, int fund, int hundredths) {
        index(client, persons.size());
        index(fund, 6);
        argument(hundredths >= 0 && hundredths <= 100);
        int[] goals = persons.get(client).goals;
        int sum = hundredths;
        for (int i = 0; i < 6; i++) {
            sum += i == fund ? 0 : goals[i];
        }
        state(sum <= 100);
        goals[fund] = hundredths;
        return sum;
    }

    int buy(int client, int fund, int amount) {
        index(client, persons.size());
        index(fund, 6);
        argument(amount >= 1 && amount <= 10000000);
        state(deals.size() < 120 && amount * 1000L >= prices[fund]);
        state(amount + costs(amount) <= cash(client));
        return deal(client, fund, true, amount * 1000L / prices[fund], amount);
    }

    int sell(int client, int fund, int parts) {
        index(client, persons.size());
        index(fund, 6);
        argument(parts >= 1 && parts <= 1000000000);
        state(deals.size() < 120 && parts(client, fund) >= parts);
        long amount = worth(parts, fund);
        state(amount > 0 && amount <= 1000000000);
        return deal(client, fund, false, parts, amount);
    }

    int balance(int client) {
        index(client, persons.size());
        int first = deals.size();
        state(first <= 108);
        long wealth = wealth(client);
        state(wealth >= 0 && wealth <= 100000000);
        long[] change = new long[6];
        for (int fund = 0; fund < 6; fund++) {
            change[fund] = wealth * persons.get(client).goals[fund] / 100 - worth(parts(client, fund), fund);
        }
        for (int fund = 0; fund < 6; fund++) {
            long parts = -change[fund] * 1000 / prices[fund];
            if (parts > 0 && worth(parts, fund) > 0) {
                deal(client, fund, false, parts, worth(parts, fund));
            }
        }
        for (int fund = 0; fund < 6; fund++) {
            if (change[fund] > 0 && cash(client) > 0) {
                long amount = Math.min(change[fund], cash(client) - cash(client) / 100);
                if (amount * 1000 >= prices[fund]) {
                    deal(client, fund, true, amount * 1000 / prices[fund], amount);
                }
            }
        }
        return deals.size() - first;
    }

    long complain(int trade) {
        index(trade, deals.size());
        state(!unwound.contains(trade));
        Deal deal = deals.get(trade);
        unwound.add(trade);
        if (story(deal.person).lacksParts) {
            unwound.remove((Integer) trade);
            throw new IllegalStateException();
        }
        long cents = deal.buys ? deal.cents() : -deal.cents();
        persons.get(deal.person).cashMoves.add(cents);
        house -= cents;
        coverStock(deal.fund);
        long before = persons.get(deal.person).cash();
        takeTaxes(deal.person);
        return persons.get(deal.person).cash() - before;
    }

    int pass(int days) {
        argument(days >= 1 && days <= 400);
        state(day <= 7200 - days);
        for (int end = day + days; day < end; ) {
            for (int fund = 0; fund < 6; fund++) {
                while (parts(-1, fund) >= 1000000) {
                    bought[fund] -= 1000;
                    house += 1000L * prices[fund];
                }
                while (parts(-1, fund) >= 1000) {
                    bought[fund]--;
                    house += prices[fund];
                }
            }
            day++;
            for (int person = 0; day % 360 == 0 && person < persons.size(); person++) {
                takeTaxes(person);
            }
        }
        return day;
    }

    long cash(int client) {
        if (client == -1) {
            return house;
        }
        index(client, persons.size());
        return persons.get(client).cash();
    }

    long parts(int client, int fund) {
        if (client != -1) {
            index(client, persons.size());
        }
        index(fund, 6);
        long held = 0;
        for (Deal deal : deals) {
            if (deal.fund == fund && (client == -1 || deal.person == client) && !unwound.contains(deal.number)) {
                held += deal.buys ? deal.parts : -deal.parts;
            }
        }
        return client == -1 ? bought[fund] * 1000 - held : held;
    }

    long units(int fund) {
        index(fund, 6);
        return bought[fund];
    }

    long tradeOf(int trade, int what) {
        index(trade, deals.size());
        argument(what >= 0 && what <= 6);
        Deal deal = deals.get(trade);
        long[] told = {deal.person, deal.fund, deal.buys ? deal.parts : -deal.parts, deal.amount, deal.costs, deal.day,
            unwound.contains(trade) ? 0 : 1};
        return told[what];
    }

    long lot(int client, int fund, int rank, int what) {
        index(client, persons.size());
        index(fund, 6);
        if (rank < 0) {
            throw new IndexOutOfBoundsException();
        }
        argument(what >= 0 && what <= 2);
        List<Rest> rests = story(client).rests;
        rests.removeIf(rest -> rest.deal.fund != fund || rest.parts.signum() == 0);
        if (rank >= rests.size()) {
            return -1;
        }
        Rest rest = rests.get(rank);
        return what == 0 ? rest.deal.number : what == 1 ? rest.parts.longValueExact() : rest.cost.longValueExact();
    }

    long year(int client, int year, int what) {
        index(client, persons.size());
        index(year, 21);
        argument(what >= 0 && what <= 3);
        long[] gains = story(client).gains;
        long[] told = {gains[year], base(gains, year), base(gains, year) / 4, persons.get(client).taxesTaken[year]};
        return told[what];
    }

    long wealth(int client) {
        index(client, persons.size());
        long wealth = cash(client);
        for (int fund = 0; fund < 6; fund++) {
            wealth += worth(parts(client, fund), fund);
        }
        return wealth;
    }

    private static void index(int number, int end) {
        if (number < 0 || number >= end) {
            throw new IndexOutOfBoundsException();
        }
    }

    private static void argument(boolean right) {
        if (!right) {
            throw new IllegalArgumentException();
        }
    }

    private static void state(boolean right) {
        if (!right) {
            throw new IllegalStateException();
        }
    }

    private static long costs(long amount) {
        if (amount >= 100000) {
            return amount * 20 / 10000;
        }
        return amount >= 10000 ? amount * 50 / 10000 : amount * 100 / 10000;
    }

    private long worth(long parts, int fund) {
        return BigInteger.valueOf(parts).multiply(BigInteger.valueOf(prices[fund])).divide(THOUSAND).longValueExact();
    }

    private int deal(int person, int fund, boolean buys, long parts, long amount) {
        Deal deal = new Deal(deals.size(), person, fund, buys, parts, amount, costs(amount), day);
        deals.add(deal);
        persons.get(person).cashMoves.add(buys ? -deal.cents() : deal.cents());
        house += buys ? deal.cents() : -deal.cents();
        coverStock(fund);
        return deal.number;
    }

    private void coverStock(int fund) {
        long lacking = Math.max(0, -parts(-1, fund));
        long units = (lacking + 999) / 1000;
        bought[fund] += units;
        house -= units * prices[fund];
    }

    private Story story(int person) {
        Story story = new Story();
        for (Deal deal : deals) {
            if (deal.person == person && !unwound.contains(deal.number)) {
                if (deal.buys) {
                    story.rests.add(new Rest(deal));
                } else {
                    tellSale(story, deal);
                }
            }
        }
        return story;
    }

    private static void tellSale(Story story, Deal sale) {
        BigInteger due = BigInteger.valueOf(sale.parts);
        BigInteger costs = BigInteger.ZERO;
        for (Rest rest : story.rests) {
            if (rest.deal.fund == sale.fund && rest.parts.signum() > 0) {
                BigInteger taken = due.min(rest.parts);
                BigInteger cost = taken.equals(rest.parts) ? rest.cost : rest.cost.multiply(taken).divide(rest.parts);
                rest.parts = rest.parts.subtract(taken);
                rest.cost = rest.cost.subtract(cost);
                costs = costs.add(cost);
                due = due.subtract(taken);
            }
        }
        story.lacksParts |= due.signum() > 0;
        story.gains[sale.day / 360] += sale.cents() - costs.longValueExact();
    }

    private static long base(long[] gains, int year) {
        long carried = year == 0 ? 0 : carried(gains, year - 1);
        return Math.max(0, gains[year] + carried);
    }

    /** What is carried out of a year, 0 or below. */
    private static long carried(long[] gains, int year) {
        long into = year == 0 ? 0 : carried(gains, year - 1);
        return Math.min(0, gains[year] + into);
    }

    private void takeTaxes(int person) {
        long[] gains = story(person).gains;
        long[] taken = persons.get(person).taxesTaken;
        for (int year = 0; year < day / 360; year++) {
            long tax = base(gains, year) / 4;
            persons.get(person).cashMoves.add(taken[year] - tax);
            taken[year] = tax;
        }
    }
}
