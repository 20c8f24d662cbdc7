/** Objects in states that several tests start from. */
final class Scene {
    private Scene() {
    }

    /** Customer 3 has paid for as many units of product 0, at 1000 each, on day 0. */
    static BackhaulReturns paid(int units) {
        return paid(3, 1000, units);
    }

    static BackhaulReturns paid(int customer, int price, int units) {
        BackhaulReturns x = new BackhaulReturns();
        x.setProduct(0, price, 200, 300);
        x.open(customer);
        x.add(0, 0, units);
        x.pay(0);
        return x;
    }

    /** Customer 3 has an open sale with one line. */
    static BackhaulReturns open() {
        BackhaulReturns x = new BackhaulReturns();
        x.open(3);
        x.add(0, 0, 4);
        return x;
    }

    /** A sale for each price, one unit a line, not paid. */
    static BackhaulReturns lines(int... prices) {
        BackhaulReturns x = new BackhaulReturns();
        x.open(0);
        for (int i = 0; i < prices.length; i++) {
            x.setProduct(i, prices[i], 200, 300);
            x.add(0, i, 1);
        }
        return x;
    }

    /** As paid(20), and then there are 40 sales. */
    static BackhaulReturns full() {
        BackhaulReturns x = paid(20);
        for (int sale = 1; sale < 40; sale++) {
            x.open(4);
        }
        return x;
    }

    /** As paid(20); then 9 units were returned in two returns, which makes a score of exactly 100. */
    static BackhaulReturns blocked() {
        BackhaulReturns x = paid(20);
        x.giveBack(0, 0, 8, BackhaulReturns.NEW);
        x.giveBack(0, 0, 1, BackhaulReturns.NEW);
        return x;
    }

    /** As paid(units); then the days have passed. */
    static BackhaulReturns aged(int units, int days) {
        BackhaulReturns x = paid(units);
        if (days > 0) {
            x.pass(days);
        }
        return x;
    }
}
