/** Objects in states that several tests start from. */
final class Scene {
    private static final int NEW = BackhaulReturns.NEW;

    private Scene() {
    }

    /** Customer 3 has paid for as many units of product 0, at 1000 each, on day 0. */
    static BackhaulReturns paid(int units) {
        return paid(3, 1000, units);
    }

    static BackhaulReturns paid(int customer, int price, int units) {
        BackhaulReturns x = new BackhaulReturns();
        x.setProduct(0, price, 200, 300);
        x.open(customer);
        x.add(0, 0, units);
        x.pay(0);
        return x;
    }

    /** As paid(units); then the days have passed. */
    static BackhaulReturns aged(int units, int days) {
        return after(paid(units), days);
    }

    static BackhaulReturns after(BackhaulReturns x, int days) {
        if (days > 0) {
            x.pass(days);
        }
        return x;
    }

    /** As paid(2); then both units were returned. */
    static BackhaulReturns allBack() {
        BackhaulReturns x = paid(2);
        x.giveBack(0, 0, 2, NEW);
        return x;
    }

    /** As paid(2); then one unit was exchanged for one of product 1, which made sale 1. */
    static BackhaulReturns exchanged() {
        BackhaulReturns x = paid(2);
        x.exchange(0, 0, 1, NEW, 1);
        return x;
    }

    /**
     * 4 units paid on day 0, two of them exchanged on day 5 and one of these again on day 10, so that
     * sales 0, 1 and 2 have 2, 1 and 1 kept, at 1000 each; their age is as many days, 10 or more.
     */
    static BackhaulReturns chainOfTwo(int age) {
        BackhaulReturns x = aged(4, 5);
        x.exchange(0, 0, 2, NEW, 1);
        x.pass(5);
        x.exchange(1, 0, 1, NEW, 2);
        return after(x, age - 10);
    }

    /** Customer 3 has an open sale with one line of 4 units. */
    static BackhaulReturns open() {
        BackhaulReturns x = new BackhaulReturns();
        x.open(3);
        x.add(0, 0, 4);
        return x;
    }

    /** A sale with a line for each price, one unit a line, not paid. */
    static BackhaulReturns lines(int... prices) {
        BackhaulReturns x = new BackhaulReturns();
        x.open(0);
        for (int i = 0; i < prices.length; i++) {
            x.setProduct(i, prices[i], 200, 300);
            x.add(0, i, 1);
        }
        return x;
    }

    /** A paid sale with six lines: n units at n cents in the nth one. */
    static BackhaulReturns sixPaid() {
        BackhaulReturns x = new BackhaulReturns();
        x.open(0);
        for (int n = 1; n <= 6; n++) {
            x.setProduct(n, n, 200, 300);
            x.add(0, n, n);
        }
        x.pay(0);
        return x;
    }

    /** The greatest sale that can be: 6 lines of 20 units at 100000, paid with 10200000. */
    static BackhaulReturns greatest() {
        BackhaulReturns x = new BackhaulReturns();
        x.setProduct(0, 100000, 0, 0);
        x.open(0);
        for (int line = 0; line < 6; line++) {
            x.add(0, 0, 20);
        }
        x.pay(0);
        return x;
    }

    /** As paid(20), and then there are as many sales, the others open and of customer 4. */
    static BackhaulReturns crowded(int sales) {
        BackhaulReturns x = paid(20);
        for (int sale = 1; sale < sales; sale++) {
            x.open(4);
        }
        return x;
    }

    static BackhaulReturns full() {
        return crowded(40);
    }

    /** As full(), and the last sale is paid, with one unit at 1000. */
    static BackhaulReturns fullPaidLast() {
        BackhaulReturns x = full();
        x.add(39, 0, 1);
        x.pay(39);
        return x;
    }

    /** As paid(20); then 9 units were returned at once, which makes a score of 95. */
    static BackhaulReturns nearlyBlocked() {
        BackhaulReturns x = paid(20);
        x.giveBack(0, 0, 9, NEW);
        return x;
    }

    /** As paid(20); then 9 units were returned in two returns, which makes a score of just 100. */
    static BackhaulReturns blocked() {
        BackhaulReturns x = paid(20);
        x.giveBack(0, 0, 8, NEW);
        x.giveBack(0, 0, 1, NEW);
        return x;
    }
}
