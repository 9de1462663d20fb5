import java.util.ArrayList;
import java.util.Arrays;

/** A house of small savings; the promises it keeps are told in ../shared/DOC.md. */
public final class SavingsHall {
    public static final int NONE = -1;

    private static final int FUNDS = 6;
    private static final int MOST_CLIENTS = 12;
    private static final int MOST_TRADES = 120;
    private static final int MOST_TRADES_TO_BALANCE = 108;
    private static final int FIRST_PRICE = 10000;
    private static final int LEAST_PRICE = 10;
    private static final int MOST_PRICE = 1000000;
    private static final int MOST_CENTS = 10000000;
    private static final int MOST_PARTS_SOLD = 1000000000;
    private static final long MOST_AMOUNT_SOLD = 1000000000L;
    private static final long MOST_WEALTH_TO_BALANCE = 100000000L;
    private static final int WHOLE_GOAL = 100;
    private static final int PARTS_OF_A_UNIT = 1000;
    private static final int MOST_DAYS_AT_ONCE = 400;
    private static final int LAST_DAY = 7200;
    private static final int DAYS_OF_A_YEAR = 360;
    private static final int YEARS = 21;
    private static final int TAX_DIVISOR = 4;

    private final ArrayList<Fund> funds;
    private final ArrayList<Client> clients;
    private final ArrayList<Trade> trades;
    private long houseMoney;
    private int today;

    public SavingsHall() {
        funds = new ArrayList<Fund>();
        clients = new ArrayList<Client>();
        trades = new ArrayList<Trade>();
        for (int i = 0; i < FUNDS; i++) {
            funds.add(new Fund(i));
        }
    }

    public int price(int fund, int price) throws IndexOutOfBoundsException, IllegalArgumentException {
        Fund priced = fundAt(fund);
        checkRange(price, LEAST_PRICE, MOST_PRICE);
        int former = priced.price;
        priced.price = price;
        return former;
    }

    public int client() throws IllegalStateException {
        int number = clients.size();
        checkPossible(number < MOST_CLIENTS);
        Client newcomer = new Client(number);
        for (int i = 0; i < funds.size(); i++) {
            newcomer.holdings.add(new Holding(newcomer, funds.get(i)));
        }
        clients.add(newcomer);
        return number;
    }

    public long pay(int client, int cents)
            throws IndexOutOfBoundsException, IllegalArgumentException, IllegalStateException {
        Client payer = clientAt(client);
        checkRange(cents, -MOST_CENTS, MOST_CENTS);
        // A debt by taxes or complaints may be paid off in steps, so only paying out is looked at.
        checkPossible(cents >= 0 || payer.cash + cents >= 0);
        payer.cash += cents;
        return payer.cash;
    }

    public int goal(int client, int fund, int hundredths)
            throws IndexOutOfBoundsException, IllegalArgumentException, IllegalStateException {
        Holding holding = holdingAt(client, fund);
        checkRange(hundredths, 0, WHOLE_GOAL);
        int together = hundredthsTogether(holding.client) - holding.hundredths + hundredths;
        checkPossible(together <= WHOLE_GOAL);
        holding.hundredths = hundredths;
        return together;
    }

    public int buy(int client, int fund, int amount)
            throws IndexOutOfBoundsException, IllegalArgumentException, IllegalStateException {
        Holding holding = holdingAt(client, fund);
        checkRange(amount, 1, MOST_CENTS);
        checkPossible(trades.size() < MOST_TRADES);
        long parts = partsFor(amount, holding.fund);
        checkPossible(parts > 0 && amount + costsOf(amount) <= holding.client.cash);
        return makeTrade(holding, parts, amount);
    }

    public int sell(int client, int fund, int parts)
            throws IndexOutOfBoundsException, IllegalArgumentException, IllegalStateException {
        Holding holding = holdingAt(client, fund);
        checkRange(parts, 1, MOST_PARTS_SOLD);
        checkPossible(trades.size() < MOST_TRADES);
        checkPossible(parts <= holding.parts);
        long amount = amountFor(parts, holding.fund);
        checkPossible(amount > 0 && amount <= MOST_AMOUNT_SOLD);
        return makeTrade(holding, -parts, amount);
    }

    public int balance(int client) throws IndexOutOfBoundsException, IllegalStateException {
        Client balanced = clientAt(client);
        int before = trades.size();
        checkPossible(before <= MOST_TRADES_TO_BALANCE);
        long wealth = wealthOf(balanced);
        checkPossible(wealth >= 0 && wealth <= MOST_WEALTH_TO_BALANCE);
        for (int i = 0; i < balanced.holdings.size(); i++) {
            sellTooMuch(balanced.holdings.get(i), wealth);
        }
        for (int i = 0; i < balanced.holdings.size(); i++) {
            buyWhatLacks(balanced.holdings.get(i), wealth);
        }
        return trades.size() - before;
    }

    public long complain(int trade) throws IndexOutOfBoundsException, IllegalStateException {
        Trade unwound = tradeAt(trade);
        checkPossible(unwound.stands && salesKeepTheirParts(unwound));
        Client complainer = unwound.holding.client;
        unwound.stands = false;
        exchange(unwound.holding, -unwound.parts, -unwound.paid());
        findLotsAnew(complainer);
        return settleTaxes(complainer);
    }

    public int pass(int days) throws IllegalArgumentException, IllegalStateException {
        checkRange(days, 1, MOST_DAYS_AT_ONCE);
        checkPossible(today + days <= LAST_DAY);
        for (int i = 0; i < days; i++) {
            endDay();
        }
        return today;
    }

    public long cash(int client) throws IndexOutOfBoundsException {
        if (client == NONE) {
            return houseMoney;
        }
        return clientAt(client).cash;
    }

    public long parts(int client, int fund) throws IndexOutOfBoundsException {
        if (client == NONE) {
            return fundAt(fund).stock;
        }
        return holdingAt(client, fund).parts;
    }

    public long units(int fund) throws IndexOutOfBoundsException {
        return fundAt(fund).units;
    }

    public long tradeOf(int trade, int what) throws IndexOutOfBoundsException, IllegalArgumentException {
        Trade asked = tradeAt(trade);
        checkRange(what, 0, 6);
        switch (what) {
            case 0:
                return asked.holding.client.number;
            case 1:
                return asked.holding.fund.number;
            case 2:
                return asked.parts;
            case 3:
                return asked.amount;
            case 4:
                return asked.costs;
            case 5:
                return asked.day;
            default:
                return asked.stands ? 1 : 0;
        }
    }

    public long lot(int client, int fund, int rank, int what)
            throws IndexOutOfBoundsException, IllegalArgumentException {
        Holding holding = holdingAt(client, fund);
        checkExists(rank >= 0);
        checkRange(what, 0, 2);
        int passedOver = 0;
        for (int i = 0; i < trades.size(); i++) {
            Trade trade = trades.get(i);
            if (trade.holding == holding && trade.partsLeft > 0) {
                if (passedOver == rank) {
                    return what == 0 ? trade.number : what == 1 ? trade.partsLeft : trade.costLeft;
                }
                passedOver++;
            }
        }
        return NONE;
    }

    public long year(int client, int year, int what) throws IndexOutOfBoundsException, IllegalArgumentException {
        Client taxed = clientAt(client);
        checkExists(year >= 0 && year < taxed.gains.length && year < taxed.taxesPaid.length);
        checkRange(what, 0, 3);
        switch (what) {
            case 0:
                return taxed.gains[year];
            case 1:
                return baseOf(taxed, year);
            case 2:
                return baseOf(taxed, year) / TAX_DIVISOR;
            default:
                return taxed.taxesPaid[year];
        }
    }

    public long wealth(int client) throws IndexOutOfBoundsException {
        return wealthOf(clientAt(client));
    }

    private static void checkExists(boolean exists) {
        if (!exists) {
            throw new IndexOutOfBoundsException("there is none of this number");
        }
    }

    private static void checkRange(int argument, int least, int most) {
        if (argument < least || argument > most) {
            throw new IllegalArgumentException("an argument is out of range");
        }
    }

    private static void checkPossible(boolean possible) {
        if (!possible) {
            throw new IllegalStateException("this is not possible now");
        }
    }

    private Fund fundAt(int fund) {
        checkExists(fund >= 0 && fund < funds.size());
        return funds.get(fund);
    }

    private Client clientAt(int client) {
        checkExists(client >= 0 && client < clients.size());
        return clients.get(client);
    }

    private Holding holdingAt(int client, int fund) {
        Client holder = clientAt(client);
        checkExists(fund >= 0 && fund < holder.holdings.size());
        return holder.holdings.get(fund);
    }

    private Trade tradeAt(int trade) {
        checkExists(trade >= 0 && trade < trades.size());
        return trades.get(trade);
    }

    private static int hundredthsTogether(Client client) {
        int together = 0;
        for (int i = 0; i < client.holdings.size(); i++) {
            together += client.holdings.get(i).hundredths;
        }
        return together;
    }

    private static long cutQuotient(long dividend, long divisor) {
        // No price is 0, nor what is left of a lot that is taken from; the test keeps a slip from throwing.
        return divisor == 0 ? 0 : dividend / divisor;
    }

    private static long partsFor(long amount, Fund fund) {
        return cutQuotient(amount * PARTS_OF_A_UNIT, fund.price);
    }

    private static long amountFor(long parts, Fund fund) {
        return parts * fund.price / PARTS_OF_A_UNIT;
    }

    private static long costsOf(long amount) {
        int rate = amount < 10000 ? 100 : amount < 100000 ? 50 : 20;
        return amount * rate / 10000;
    }

    private static long worthOf(Holding holding) {
        return amountFor(holding.parts, holding.fund);
    }

    private static long wealthOf(Client client) {
        long wealth = client.cash;
        for (int i = 0; i < client.holdings.size(); i++) {
            wealth += worthOf(client.holdings.get(i));
        }
        return wealth;
    }

    private static long targetOf(Holding holding, long wealth) {
        return wealth * holding.hundredths / WHOLE_GOAL;
    }

    private void sellTooMuch(Holding holding, long wealth) {
        long tooMuch = worthOf(holding) - targetOf(holding, wealth);
        if (tooMuch <= 0) {
            return;
        }
        long parts = partsFor(tooMuch, holding.fund);
        long amount = amountFor(parts, holding.fund);
        if (parts > 0 && amount > 0) {
            makeTrade(holding, -parts, amount);
        }
    }

    private void buyWhatLacks(Holding holding, long wealth) {
        // A fund that was sold just now still has its target at least, as the parts sold were cut.
        long lacks = targetOf(holding, wealth) - worthOf(holding);
        if (lacks <= 0) {
            return;
        }
        long cash = holding.client.cash;
        long amount = Math.min(lacks, cash - cash / 100);
        long parts = partsFor(amount, holding.fund);
        if (parts > 0 && amount > 0) {
            makeTrade(holding, parts, amount);
        }
    }

    private int makeTrade(Holding holding, long parts, long amount) {
        Trade trade = new Trade(trades.size(), holding, today, parts, amount, costsOf(amount));
        trades.add(trade);
        exchange(holding, parts, trade.paid());
        enterIntoLots(trade);
        return trade.number;
    }

    /** Parts and cents below 0 go the other way round, so that a trade is unwound as it was made. */
    private void exchange(Holding holding, long parts, long cents) {
        Fund fund = holding.fund;
        holding.client.cash -= cents;
        houseMoney += cents;
        holding.parts += parts;
        fund.stock -= parts;
        if (fund.stock < 0) {
            tradeUnits(fund, (PARTS_OF_A_UNIT - 1 - fund.stock) / PARTS_OF_A_UNIT);
        }
    }

    /** The house buys units, or sells, below 0. */
    private void tradeUnits(Fund fund, long units) {
        fund.units += units;
        fund.stock += units * PARTS_OF_A_UNIT;
        houseMoney -= units * fund.price;
    }

    private void enterIntoLots(Trade trade) {
        if (trade.isSale()) {
            addGain(trade.holding.client, yearOf(trade.day), -trade.paid() - takeCostFromLots(trade));
        } else {
            trade.partsLeft = trade.parts;
            trade.costLeft = trade.paid();
        }
    }

    private long takeCostFromLots(Trade sale) {
        long wanted = -sale.parts;
        long costTaken = 0;
        // When lots are found anew, those of later trades must not be sold before they were bought.
        for (int i = 0; i < sale.number && i < trades.size() && wanted > 0; i++) {
            Trade lot = trades.get(i);
            if (lot.holding == sale.holding && lot.partsLeft > 0) {
                long parts = Math.min(wanted, lot.partsLeft);
                // All the parts take all the cost, as nothing is cut then.
                long cost = cutQuotient(lot.costLeft * parts, lot.partsLeft);
                lot.partsLeft -= parts;
                lot.costLeft -= cost;
                wanted -= parts;
                costTaken += cost;
            }
        }
        return costTaken;
    }

    private static void addGain(Client client, int year, long gain) {
        if (year >= 0 && year < client.gains.length) {
            client.gains[year] += gain;
        }
    }

    private boolean salesKeepTheirParts(Trade unwound) {
        long held = 0;
        for (int i = 0; i < trades.size(); i++) {
            Trade trade = trades.get(i);
            if (trade.holding == unwound.holding && trade.stands && trade != unwound) {
                held += trade.parts;
                if (held < 0) {
                    return false;
                }
            }
        }
        return true;
    }

    private void findLotsAnew(Client client) {
        Arrays.fill(client.gains, 0);
        for (int i = 0; i < trades.size(); i++) {
            Trade trade = trades.get(i);
            if (trade.holding.client == client) {
                trade.partsLeft = 0;
                trade.costLeft = 0;
                if (trade.stands) {
                    enterIntoLots(trade);
                }
            }
        }
    }

    private static int yearOf(int day) {
        return day / DAYS_OF_A_YEAR;
    }

    private static long baseOf(Client client, int year) {
        long sum = 0;
        for (int i = 0; i <= year && i < client.gains.length; i++) {
            sum = Math.min(sum, 0) + client.gains[i];
        }
        return Math.max(sum, 0);
    }

    /** One way for the end of a year and for a complaint; what comes back is below 0 if it is taken. */
    private long settleTaxes(Client client) {
        long back = 0;
        for (int i = 0; i < yearOf(today) && i < client.taxesPaid.length; i++) {
            long tax = baseOf(client, i) / TAX_DIVISOR;
            back += client.taxesPaid[i] - tax;
            client.taxesPaid[i] = tax;
        }
        client.cash += back;
        return back;
    }

    private void endDay() {
        for (int i = 0; i < funds.size(); i++) {
            Fund fund = funds.get(i);
            tradeUnits(fund, -(fund.stock / PARTS_OF_A_UNIT));
        }
        today++;
        if (today % DAYS_OF_A_YEAR == 0) {
            for (int i = 0; i < clients.size(); i++) {
                // Taxes of earlier years are right already, so this takes the tax of the last one alone.
                settleTaxes(clients.get(i));
            }
        }
    }

    private static final class Fund {
        final int number;
        int price;
        long units;
        long stock;

        Fund(int number) {
            this.number = number;
            this.price = FIRST_PRICE;
        }
    }

    private static final class Client {
        final int number;
        final ArrayList<Holding> holdings;
        final long[] gains;
        final long[] taxesPaid;
        long cash;

        Client(int number) {
            this.number = number;
            this.holdings = new ArrayList<Holding>();
            this.gains = new long[YEARS];
            this.taxesPaid = new long[YEARS];
        }
    }

    /** What a client has of a fund, and what it is to have. */
    private static final class Holding {
        final Client client;
        final Fund fund;
        long parts;
        int hundredths;

        Holding(Client client, Fund fund) {
            this.client = client;
            this.fund = fund;
        }
    }

    /** A trade, with what is left in it as a lot, if it was bought and stands. */
    private static final class Trade {
        final int number;
        final Holding holding;
        final int day;
        final long parts;
        final long amount;
        final long costs;
        boolean stands;
        long partsLeft;
        long costLeft;

        /** Parts below 0 are sold. */
        Trade(int number, Holding holding, int day, long parts, long amount, long costs) {
            this.number = number;
            this.holding = holding;
            this.day = day;
            this.parts = parts;
            this.amount = amount;
            this.costs = costs;
            this.stands = true;
        }

        boolean isSale() {
            return parts < 0;
        }

        /** What the client pays, costs with it, below 0 if it gets it. */
        long paid() {
            return isSale() ? costs - amount : costs + amount;
        }
    }
}
