import java.math.BigInteger;
import java.util.ArrayList;
import java.util.Comparator;
import java.util.List;

/**
 * The document once more, as lists of single units and of all that ever happened: slow, and held in
 * another way than in the class, so that both are unlikely to share a slip.
 */
final class Model {
    private record Unit(int line, int price) {
    }

    private record Entry(int line, int product, int price, int quantity) {
    }

    private record Event(int customer, int day, int units, int points) {
    }

    private static final class Deal {
        final int number;
        final int customer;
        final Deal origin;
        final List<Entry> entries = new ArrayList<>();
        final List<Unit> held = new ArrayList<>();
        boolean closed;
        int closedOn;
        int price;
        int given;

        Deal(int number, int customer, Deal origin) {
            this.number = number;
            this.customer = customer;
            this.origin = origin;
        }

        Deal root() {
            return origin == null ? this : origin.root();
        }

        int steps() {
            return origin == null ? 0 : 1 + origin.steps();
        }

        long holds(int line) {
            return held.stream().filter(u -> u.line() == line).count();
        }

        void close(int day) {
            for (Entry e : entries) {
                for (int i = 0; i < e.quantity(); i++) {
                    held.add(new Unit(e.line(), e.price()));
                }
            }
            closed = true;
            closedOn = day;
            price = net(held);
        }
    }

    private final int[][] values = new int[10][];
    private final int[][] shelves = new int[10][5];
    private final List<Deal> deals = new ArrayList<>();
    private final List<Event> events = new ArrayList<>();
    private int day;
    private int withheld;

    Model() {
        for (int i = 0; i < 10; i++) {
            values[i] = new int[] {1000, 200, 300};
        }
    }

    private static int net(List<Unit> units) {
        int goods = units.stream().mapToInt(Unit::price).sum();
        int percent = goods >= 20000 ? 15 : goods >= 10000 ? 10 : goods >= 5000 ? 5 : 0;
        return goods - (int) ((long) goods * percent / 100);
    }

    private static void argument(boolean isRight) {
        if (!isRight) {
            throw new IllegalArgumentException();
        }
    }

    private static void state(boolean isRight) {
        if (!isRight) {
            throw new IllegalStateException();
        }
    }

    private static boolean in(int value, int least, int most) {
        return least <= value && value <= most;
    }

    private Deal deal(int sale) {
        if (!in(sale, 0, deals.size() - 1)) {
            throw new IndexOutOfBoundsException();
        }
        return deals.get(sale);
    }

    private Deal deal(int sale, int line) {
        Deal d = deal(sale);
        if (!in(line, 0, d.entries.size() - 1)) {
            throw new IndexOutOfBoundsException();
        }
        return d;
    }

    int setProduct(int product, int price, int salvage, int repair) {
        argument(in(product, 0, 9) && in(price, 1, 100000) && in(salvage, 0, 100000) && in(repair, 0, 100000));
        int old = values[product][0];
        values[product] = new int[] {price, salvage, repair};
        return old;
    }

    int pass(int days) {
        argument(in(days, 1, 365));
        state(day + days <= 100000);
        return day += days;
    }

    int open(int customer) {
        argument(in(customer, 0, 9));
        state(deals.size() < 40);
        deals.add(new Deal(deals.size(), customer, null));
        return deals.size() - 1;
    }

    int add(int sale, int product, int quantity) {
        Deal d = deal(sale);
        argument(in(product, 0, 9) && in(quantity, 1, 20));
        state(!d.closed && d.entries.size() < 6);
        d.entries.add(new Entry(d.entries.size(), product, values[product][0], quantity));
        return d.entries.size() - 1;
    }

    int pay(int sale) {
        Deal d = deal(sale);
        state(!d.closed && !d.entries.isEmpty());
        d.close(day);
        return d.price;
    }

    int sales() {
        return deals.size();
    }

    int paid(int sale) {
        return deal(sale).price;
    }

    int kept(int sale, int line) {
        return (int) deal(sale, line).holds(line);
    }

    int keptValue(int sale) {
        return net(deal(sale).held);
    }

    int lineValue(int sale, int line) {
        Deal d = deal(sale, line);
        if (d.held.isEmpty()) {
            return 0;
        }
        BigInteger whole = BigInteger.valueOf(d.held.stream().mapToInt(Unit::price).sum());
        BigInteger net = BigInteger.valueOf(net(d.held));
        List<BigInteger[]> shares = new ArrayList<>();
        BigInteger left = net;
        for (Entry e : d.entries) {
            BigInteger goods = BigInteger.valueOf(e.price() * d.holds(e.line()));
            BigInteger[] share = net.multiply(goods).divideAndRemainder(whole);
            shares.add(new BigInteger[] {share[0], share[1], BigInteger.valueOf(e.line())});
            left = left.subtract(share[0]);
        }
        // The sort is stable: of like remainders the lowest line stays in front.
        shares.sort(Comparator.comparing((BigInteger[] s) -> s[1]).reversed());
        for (int i = 0; i < shares.size(); i++) {
            BigInteger[] s = shares.get(i);
            if (s[2].intValue() == line) {
                return s[0].intValue() + (i < left.intValue() ? 1 : 0);
            }
        }
        throw new AssertionError("no such line");
    }

    private static List<Unit> without(Deal d, int line, int units) {
        List<Unit> rest = new ArrayList<>(d.held);
        for (int i = 0; i < units; i++) {
            rest.remove(new Unit(line, d.entries.get(line).price()));
        }
        return rest;
    }

    private void possible(Deal d, int line, int units) {
        state(d.closed && day - d.root().closedOn <= 60 && d.holds(line) >= units);
    }

    private int fee(Deal d, int freed, int condition) {
        int age = day - d.root().closedOn;
        int percent = condition == 3 ? 0 : age > 30 ? 50 : age > 14 ? 15 : 0;
        return (int) ((long) freed * percent / 100);
    }

    private int comeBack(Deal d, int line, int units, int condition, boolean isExchange) {
        List<Unit> rest = without(d, line, units);
        int freed = Math.max(0, d.price - d.given - net(rest));
        d.held.clear();
        d.held.addAll(rest);
        d.given += freed;
        int product = d.entries.get(line).product();
        shelves[product][bestOption(product, condition)] += units;
        events.add(new Event(d.customer, day, units, isExchange && d.origin != null ? 25 : 5));
        return freed;
    }

    int giveBack(int sale, int line, int units, int condition) {
        Deal d = deal(sale, line);
        argument(in(units, 1, 20) && in(condition, 0, 3));
        possible(d, line, units);
        state(score(d.customer) < 100);
        int freed = comeBack(d, line, units, condition, false);
        int fee = fee(d, freed, condition);
        withheld += fee;
        return freed - fee;
    }

    int exchange(int sale, int line, int units, int condition, int product) {
        Deal d = deal(sale, line);
        argument(in(units, 1, 20) && in(condition, 0, 3) && in(product, 0, 9));
        possible(d, line, units);
        state(score(d.customer) < 100 && deals.size() < 40);
        int freed = comeBack(d, line, units, condition, true);
        Deal made = new Deal(deals.size(), d.customer, d);
        made.entries.add(new Entry(0, product, values[product][0], units));
        made.close(day);
        deals.add(made);
        return made.price - freed;
    }

    int quote(int sale, int line, int units, int condition) {
        Deal d = deal(sale, line);
        argument(in(units, 1, 20) && in(condition, 0, 3));
        possible(d, line, units);
        int freed = Math.max(0, d.price - d.given - net(without(d, line, units)));
        return freed - fee(d, freed, condition);
    }

    int released(int sale) {
        return deal(sale).given;
    }

    int fees() {
        return withheld;
    }

    int firstSale(int sale) {
        return deal(sale).root().number;
    }

    int exchanges(int sale) {
        return deal(sale).steps();
    }

    /** The worth of each option in the order of the places; null for what is no option. */
    private Long[] worths(int product, int condition) {
        long p = values[product][0];
        long salvage = 100L * values[product][1];
        long repair = 80 * p - 100L * values[product][2];
        if (condition == 0) {
            return new Long[] {100 * p, null, null, null, null};
        }
        if (condition == 1) {
            long better = repair > salvage ? repair : salvage;
            return new Long[] {46 * p, 68 * p - 5000 + Math.floorDiv(better, 5L), null, salvage, null};
        }
        return new Long[] {null, null, repair, salvage, condition == 3 ? 60 * p : null};
    }

    int bestOption(int product, int condition) {
        argument(in(product, 0, 9) && in(condition, 0, 3));
        Long[] worths = worths(product, condition);
        int best = -1;
        for (int i = 4; i >= 0; i--) {
            if (worths[i] != null && (best == -1 || worths[i] >= worths[best])) {
                best = i;
            }
        }
        return best;
    }

    int bestWorth(int product, int condition) {
        int option = bestOption(product, condition);
        return worths(product, condition)[option].intValue();
    }

    int stock(int product, int place) {
        argument(in(product, 0, 9) && in(place, 0, 4));
        return shelves[product][place];
    }

    int test(int product, boolean isSound) {
        argument(in(product, 0, 9));
        state(shelves[product][1] > 0);
        int place = isSound ? 0 : bestOption(product, 2);
        shelves[product][1]--;
        shelves[product][place]++;
        return place;
    }

    int score(int customer) {
        argument(in(customer, 0, 9));
        int sum = 0;
        for (Event e : events) {
            if (e.customer() == customer) {
                sum += day - e.day() <= 29 ? 10 * e.units() : 0;
                sum += day - e.day() <= 89 ? e.points() : 0;
            }
        }
        return sum;
    }
}
