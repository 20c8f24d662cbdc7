/** Promise 12: giveBack. */
public final class GiveBackTest {
    private static final int NEW = BackhaulReturns.NEW;
    private static final int OPENED = BackhaulReturns.OPENED;
    private static final int DAMAGED = BackhaulReturns.DAMAGED;
    private static final int DEFECTIVE = BackhaulReturns.DEFECTIVE;

    public static void main(String[] args) {
        promise12TakesDiscountsBack();
        promise12LessThanZeroIsZero();
        promise12JustZeroAndJustAbove();
        promise12FeeSteps();
        promise12NoFeeForDefective();
        promise12FeesAreRoundedDown();
        promise12FeeOfNothing();
        promise12GreatestAmounts();
        promise12AgeCountsFromThePayment();
        promise12AgeIsThatOfTheFirstSale();
        promise12ChangesWhatItSays();
        promise12NoSuchSale();
        promise12NoSuchLine();
        promise12UnitsAre1To20();
        promise12Conditions();
        promise12OpenSale();
        promise12AgeAbove60();
        promise12FewerUnitsKept();
        promise12BlockedCustomer();
        promise12FirstListedIsThrown();
        Check.finish("GiveBackTest");
    }

    /** "what was paid for the sale, less all that was released of it before, less the net value of the units that are kept then" */
    private static void promise12TakesDiscountsBack() {
        BackhaulReturns x = Scene.paid(10);
        // 9000 paid; 8 kept are 7600, 5 kept 4750, 4 kept 4000.
        Check.is("2 of 10 back", x.giveBack(0, 0, 2, NEW), 1400);
        Check.is("3 of 8 back", x.giveBack(0, 0, 3, OPENED), 2850);
        Check.is("1 of 5 back", x.giveBack(0, 0, 1, DAMAGED), 750);
        Check.is("kept", x.kept(0, 0), 4);
        x.pass(30);
        Check.is("the rest back", x.giveBack(0, 0, 4, DEFECTIVE), 4000);
        Check.is("released", x.released(0), 9000);
        Check.is("20 of 20 back at once", Scene.paid(20).giveBack(0, 0, 20, NEW), 17000);
        Check.is("1 of 1 back", Scene.paid(1).giveBack(0, 0, 1, NEW), 1000);
    }

    /** "but 0, if that is below 0" */
    private static void promise12LessThanZeroIsZero() {
        BackhaulReturns x = Scene.paid(20);
        // 17000 paid, 19 kept would be 17100; 18 kept are 16200.
        Check.is("1 of 20 back", x.giveBack(0, 0, 1, NEW), 0);
        Check.is("released", x.released(0), 0);
        Check.is("1 of 19 back", x.giveBack(0, 0, 1, NEW), 800);
        Check.is("released then", x.released(0), 800);
        BackhaulReturns late = Scene.aged(20, 31);
        Check.is("1 of 20 back, with a fee of nothing", late.giveBack(0, 0, 1, NEW), 0);
        Check.is("fees", late.fees(), 0);
    }

    private static void promise12JustZeroAndJustAbove() {
        int[][] due = {
            // the prices of two lines, of which the first comes back; what is released
            {1111, 18889, 0}, {1112, 18888, 0}, {1113, 18887, 1},
            {250, 4751, 0}, {251, 4750, 1},
            {527, 9474, 0}, {528, 9473, 1},
        };
        for (int[] d : due) {
            BackhaulReturns x = Scene.lines(d[0], d[1]);
            x.pay(0);
            Check.is("giveBack of " + d[0] + " beside " + d[1], x.giveBack(0, 0, 1, NEW), d[2]);
            Check.is("released then", x.released(0), d[2]);
        }
    }

    /** "0 percent of it up to an age of 14, 15 percent up to 30, 50 percent up to 60" */
    private static void promise12FeeSteps() {
        int[][] due = {{0, 1000}, {14, 1000}, {15, 850}, {30, 850}, {31, 500}, {60, 500}};
        for (int[] d : due) {
            for (int condition : new int[] {NEW, OPENED, DAMAGED}) {
                BackhaulReturns x = Scene.aged(4, d[0]);
                Check.is("giveBack at an age of " + d[0], x.giveBack(0, 0, 1, condition), d[1]);
                Check.is("fees at an age of " + d[0], x.fees(), 1000 - d[1]);
                Check.is("released at an age of " + d[0], x.released(0), 1000);
            }
        }
    }

    /** "no fee for units in the condition DEFECTIVE" */
    private static void promise12NoFeeForDefective() {
        for (int age : new int[] {0, 14, 15, 30, 31, 60}) {
            BackhaulReturns x = Scene.aged(4, age);
            Check.is("giveBack, DEFECTIVE, at an age of " + age, x.giveBack(0, 0, 1, DEFECTIVE), 1000);
            Check.is("fees, DEFECTIVE, at an age of " + age, x.fees(), 0);
        }
    }

    /** "rounded down" */
    private static void promise12FeesAreRoundedDown() {
        // the price, the age, and the fee of 15 or 50 percent
        int[][] due = {{333, 15, 49}, {6, 15, 0}, {7, 15, 1}, {13, 30, 1}, {14, 30, 2}, {20, 30, 3},
            {333, 31, 166}, {1, 31, 0}, {2, 31, 1}, {3, 60, 1}, {4, 60, 2}};
        for (int[] d : due) {
            BackhaulReturns x = Scene.after(Scene.paid(3, d[0], 1), d[1]);
            Check.is("giveBack of " + d[0] + " at an age of " + d[1], x.giveBack(0, 0, 1, NEW), d[0] - d[2]);
            Check.is("fee on " + d[0] + " at an age of " + d[1], x.fees(), d[2]);
        }
        BackhaulReturns two = Scene.after(Scene.paid(3, 333, 2), 15);
        Check.is("the fee is on all units together", two.giveBack(0, 0, 2, NEW), 666 - 99);
    }

    private static void promise12FeeOfNothing() {
        BackhaulReturns x = Scene.lines(1112, 18888);
        x.pay(0);
        x.pass(60);
        Check.is("giveBack that releases just nothing", x.giveBack(0, 0, 1, NEW), 0);
        Check.is("fees", x.fees(), 0);
    }

    private static void promise12GreatestAmounts() {
        BackhaulReturns x = Scene.after(Scene.greatest(), 31);
        // 10200000 paid, of 12000000; then 10000000 are kept: 8500000.
        Check.is("20 of 120 at 100000 back", x.giveBack(0, 0, 20, NEW), 850000);
        Check.is("fees", x.fees(), 850000);
        BackhaulReturns one = Scene.after(Scene.paid(3, 100000, 20), 60);
        Check.is("20 of 20 at 100000 back", one.giveBack(0, 0, 20, NEW), 850000);
    }

    /** "the number of days since its first sale was paid" */
    private static void promise12AgeCountsFromThePayment() {
        int[][] due = {{14, 1000}, {15, 850}, {30, 850}, {31, 500}, {60, 500}};
        for (int[] d : due) {
            Check.is("giveBack " + d[0] + " days after the payment", openedLongAgo(d[0]).giveBack(0, 0, 1, NEW), d[1]);
        }
        Check.badState("giveBack 61 days after the payment", () -> openedLongAgo(61), x -> x.giveBack(0, 0, 1, NEW));
    }

    /** A sale of 4 units, opened on day 0 and paid on day 100; and then the days have passed. */
    private static BackhaulReturns openedLongAgo(int days) {
        BackhaulReturns x = Scene.open();
        x.pass(100);
        x.pay(0);
        return Scene.after(x, days);
    }

    private static void promise12AgeIsThatOfTheFirstSale() {
        int[][] due = {{14, 1000}, {15, 850}, {30, 850}, {31, 500}, {60, 500}};
        for (int[] d : due) {
            BackhaulReturns x = Scene.chainOfTwo(d[0]);
            Check.is("giveBack of a chain's end at an age of " + d[0], x.giveBack(2, 0, 1, NEW), d[1]);
        }
        for (int sale = 0; sale < 3; sale++) {
            int s = sale;
            Check.is("giveBack in a chain at 60", Scene.chainOfTwo(60).giveBack(s, 0, 1, DEFECTIVE), 1000);
            Check.badState("giveBack in a chain at 61", () -> Scene.chainOfTwo(61), x -> x.giveBack(s, 0, 1, DEFECTIVE));
        }
    }

    private static void promise12ChangesWhatItSays() {
        BackhaulReturns x = new BackhaulReturns();
        x.open(3);
        x.add(0, 0, 3);
        x.add(0, 1, 3);
        x.pay(0);
        x.setProduct(1, 1, 500, 0);
        Check.is("giveBack of line 1, at the line's price", x.giveBack(0, 1, 2, DAMAGED), 5700 - 4000);
        Check.is("kept of line 0", x.kept(0, 0), 3);
        Check.is("kept of line 1", x.kept(0, 1), 1);
        Check.is("paid", x.paid(0), 5700);
        Check.is("stock by the values now", x.stock(1, BackhaulReturns.SALVAGE), 2);
        Check.is("stock of another product", x.stock(0, BackhaulReturns.SALVAGE), 0);
        Check.is("score", x.score(3), 25);
        Check.is("score of another customer", x.score(0), 0);
        Check.is("sales", x.sales(), 1);
    }

    /** "if there is no such sale" */
    private static void promise12NoSuchSale() {
        for (int sale : Edges.outside(0, 0)) {
            Check.noSuch("giveBack of sale " + sale, () -> Scene.paid(4), x -> x.giveBack(sale, 0, 1, NEW));
        }
        for (int sale : Edges.outside(0, 39)) {
            Check.noSuch("giveBack of sale " + sale + " with 40", Scene::fullPaidLast, x -> x.giveBack(sale, 0, 1, NEW));
        }
        Check.noSuch("giveBack without a sale", BackhaulReturns::new, x -> x.giveBack(0, 0, 1, NEW));
        Check.is("giveBack of the last of 40 sales", Scene.fullPaidLast().giveBack(39, 0, 1, NEW), 1000);
    }

    /** "or line" */
    private static void promise12NoSuchLine() {
        for (int line : Edges.outside(0, 0)) {
            Check.noSuch("giveBack of line " + line, () -> Scene.paid(4), x -> x.giveBack(0, line, 1, NEW));
            Check.noSuch("giveBack of line " + line + " by an exchange", Scene::exchanged, x -> x.giveBack(1, line, 1, NEW));
        }
        for (int line : Edges.outside(0, 5)) {
            Check.noSuch("giveBack of line " + line + " of six", Scene::sixPaid, x -> x.giveBack(0, line, 1, NEW));
        }
        Check.noSuch("giveBack of a sale without a line", () -> Scene.lines(), x -> x.giveBack(0, 0, 1, NEW));
        Check.is("giveBack of the sixth line", Scene.sixPaid().giveBack(0, 5, 1, NEW), 6);
    }

    /** "units: 1 to 20" */
    private static void promise12UnitsAre1To20() {
        for (int units : new int[] {1, 20}) {
            BackhaulReturns x = Scene.paid(3, 10, 20);
            Check.is("giveBack of " + units, x.giveBack(0, 0, units, NEW), 10 * units);
            Check.is("kept after " + units, x.kept(0, 0), 20 - units);
        }
        for (int units : Edges.NO_UNITS) {
            Check.badArgument("giveBack of " + units, () -> Scene.paid(20), x -> x.giveBack(0, 0, units, NEW));
        }
    }

    /** "condition: NEW, OPENED, DAMAGED or DEFECTIVE" */
    private static void promise12Conditions() {
        int[] places = {BackhaulReturns.RESTOCK, BackhaulReturns.TEST, BackhaulReturns.REPAIR, BackhaulReturns.VENDOR};
        for (int condition = 0; condition < 4; condition++) {
            BackhaulReturns x = Scene.paid(4);
            Check.is("giveBack in condition " + condition, x.giveBack(0, 0, 1, condition), 1000);
            Check.is("stock for condition " + condition, x.stock(0, places[condition]), 1);
        }
        for (int condition : Edges.NO_CONDITION) {
            Check.badArgument("giveBack in condition " + condition, () -> Scene.paid(4), x -> x.giveBack(0, 0, 1, condition));
        }
    }

    /** "if the sale is open" */
    private static void promise12OpenSale() {
        Check.badState("giveBack of an open sale", Scene::open, x -> x.giveBack(0, 0, 1, NEW));
        BackhaulReturns x = Scene.open();
        x.pay(0);
        Check.is("giveBack as soon as it is paid", x.giveBack(0, 0, 1, NEW), 1000);
    }

    /** "its age is above 60" */
    private static void promise12AgeAbove60() {
        Check.is("giveBack at an age of 60", Scene.aged(4, 60).giveBack(0, 0, 1, NEW), 500);
        for (int condition = 0; condition < 4; condition++) {
            int c = condition;
            Check.badState("giveBack at an age of 61", () -> Scene.aged(4, 61), x -> x.giveBack(0, 0, 1, c));
        }
        Check.badState("giveBack at an age of 365", () -> Scene.aged(4, 365), x -> x.giveBack(0, 0, 1, NEW));
    }

    /** "fewer units are kept" */
    private static void promise12FewerUnitsKept() {
        Check.is("giveBack of 4 of 4", Scene.paid(4).giveBack(0, 0, 4, NEW), 4000);
        Check.badState("giveBack of 5 of 4", () -> Scene.paid(4), x -> x.giveBack(0, 0, 5, NEW));
        Check.badState("giveBack of 20 of 19", () -> Scene.paid(19), x -> x.giveBack(0, 0, 20, NEW));
        Check.is("giveBack of 11 of 11", Scene.nearlyBlocked().giveBack(0, 0, 11, NEW), 9900);
        Check.badState("giveBack of 12 of 11", Scene::nearlyBlocked, x -> x.giveBack(0, 0, 12, NEW));
        Check.badState("giveBack of 1 of 0", Scene::allBack, x -> x.giveBack(0, 0, 1, NEW));
        Check.badState("giveBack of 2 of 1, after an exchange", Scene::exchanged, x -> x.giveBack(0, 0, 2, NEW));
        Check.badState("giveBack of 2 of 1, by an exchange", Scene::exchanged, x -> x.giveBack(1, 0, 2, NEW));
        Check.badState("giveBack of 2 of 1, 2 in the next line", Scene::sixPaid, x -> x.giveBack(0, 0, 2, NEW));
    }

    /** "or the customer is blocked" */
    private static void promise12BlockedCustomer() {
        BackhaulReturns near = Scene.nearlyBlocked();
        Check.is("a score just below", near.score(3), 95);
        Check.is("giveBack with a score of 95", near.giveBack(0, 0, 10, NEW), 8900);
        Check.is("a score of 100", Scene.blocked().score(3), 100);
        for (int condition = 0; condition < 4; condition++) {
            int c = condition;
            Check.badState("giveBack with a score of 100", Scene::blocked, x -> x.giveBack(0, 0, 1, c));
        }
        BackhaulReturns other = Scene.blocked();
        other.open(4);
        other.add(1, 0, 1);
        other.pay(1);
        Check.is("giveBack of another customer", other.giveBack(1, 0, 1, NEW), 1000);
        Check.badState("giveBack of another sale of the customer", GiveBackTest::blockedWithAnotherSale, x -> x.giveBack(1, 0, 1, NEW));
    }

    private static BackhaulReturns blockedWithAnotherSale() {
        BackhaulReturns x = Scene.blocked();
        x.open(3);
        x.add(1, 0, 1);
        x.pay(1);
        return x;
    }

    /** "if several apply, the one that it lists first is thrown" */
    private static void promise12FirstListedIsThrown() {
        for (int sale : Edges.outside(0, 0)) {
            Check.noSuch("giveBack, all wrong, sale " + sale, Scene::open, x -> x.giveBack(sale, 9, 0, 9));
        }
        for (int line : Edges.outside(0, 0)) {
            Check.noSuch("giveBack, all wrong, line " + line, Scene::open, x -> x.giveBack(0, line, 0, 9));
        }
        for (int units : Edges.NO_UNITS) {
            Check.badArgument("giveBack of " + units + ", open", Scene::open, x -> x.giveBack(0, 0, units, NEW));
            Check.badArgument("giveBack of " + units + " at 61", () -> Scene.aged(4, 61), x -> x.giveBack(0, 0, units, NEW));
            Check.badArgument("giveBack of " + units + ", blocked", Scene::blocked, x -> x.giveBack(0, 0, units, NEW));
        }
        for (int condition : Edges.NO_CONDITION) {
            Check.badArgument("giveBack in " + condition + ", open", Scene::open, x -> x.giveBack(0, 0, 1, condition));
            Check.badArgument("giveBack in " + condition + " of 5 of 4", () -> Scene.paid(4), x -> x.giveBack(0, 0, 5, condition));
            Check.badArgument("giveBack in " + condition + ", blocked", Scene::blocked, x -> x.giveBack(0, 0, 1, condition));
        }
    }
}
