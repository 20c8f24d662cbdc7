/** Promise 13: exchange. */
public final class ExchangeTest {
    private static final int NEW = BackhaulReturns.NEW;
    private static final int DAMAGED = BackhaulReturns.DAMAGED;
    private static final int DEFECTIVE = BackhaulReturns.DEFECTIVE;

    public static void main(String[] args) {
        promise13PaysTheDifference();
        promise13DiscountsOfTheNewSale();
        promise13ReleasesNothing();
        promise13GreatestAmounts();
        promise13MakesASale();
        promise13TakesNoFee();
        promise13NoSuchSale();
        promise13NoSuchLine();
        promise13UnitsAre1To20();
        promise13Conditions();
        promise13ProductIs0To9();
        promise13OpenSale();
        promise13AgeAbove60();
        promise13FewerUnitsKept();
        promise13BlockedCustomer();
        promise13FortySales();
        promise13FirstListedIsThrown();
        Check.finish("ExchangeTest");
    }

    /** "Returns what the customer pays; below 0 if the customer gets money." */
    private static void promise13PaysTheDifference() {
        BackhaulReturns x = Scene.paid(4);
        x.setProduct(1, 1001, 0, 0);
        x.setProduct(2, 999, 0, 0);
        Check.is("exchange for a dearer product", x.exchange(0, 0, 1, NEW, 1), 1);
        Check.is("exchange for a cheaper product", x.exchange(0, 0, 1, NEW, 2), -1);
        Check.is("exchange for the same product", x.exchange(0, 0, 1, NEW, 0), 0);
        x.setProduct(0, 1200, 0, 0);
        Check.is("exchange at the price now", x.exchange(0, 0, 1, NEW, 0), 200);
    }

    /** "It is paid at once, with its net value." */
    private static void promise13DiscountsOfTheNewSale() {
        int[][] due = {{4999, 4999}, {5000, 4750}, {5019, 4769}, {5020, 4769}, {9999, 9500}, {10000, 9000},
            {19999, 18000}, {20000, 17000}};
        for (int[] d : due) {
            BackhaulReturns x = Scene.paid(4);
            x.setProduct(9, d[0], 0, 0);
            Check.is("exchange for one at " + d[0], x.exchange(0, 0, 1, NEW, 9), d[1] - 1000);
            Check.is("paid of the new sale at " + d[0], x.paid(1), d[1]);
        }
        // 9000 paid, 4750 for 5 kept; 5 new ones are 4750 again.
        Check.is("5 of 10", Scene.paid(10).exchange(0, 0, 5, NEW, 1), 500);
    }

    private static void promise13ReleasesNothing() {
        BackhaulReturns x = Scene.paid(20);
        Check.is("exchange that releases nothing", x.exchange(0, 0, 1, NEW, 1), 1000);
        Check.is("released", x.released(0), 0);
        BackhaulReturns just = Scene.lines(1112, 18888);
        just.pay(0);
        Check.is("exchange that releases just nothing", just.exchange(0, 0, 1, NEW, 5), 1000);
    }

    private static void promise13GreatestAmounts() {
        BackhaulReturns up = Scene.paid(3, 1, 20);
        up.setProduct(1, 100000, 0, 0);
        Check.is("20 of the cheapest for the dearest", up.exchange(0, 0, 20, NEW, 1), 1700000 - 20);
        up.setProduct(2, 1, 0, 0);
        up.pass(30);
        Check.is("20 of the dearest for the cheapest", up.exchange(1, 0, 20, NEW, 2), 20 - 1700000);
    }

    /** "a new sale for the same customer, with one line: as many units of another or the same product" */
    private static void promise13MakesASale() {
        BackhaulReturns x = Scene.paid(4);
        x.open(7);
        x.setProduct(9, 2500, 0, 0);
        x.exchange(0, 0, 3, DAMAGED, 9);
        Check.is("sales", x.sales(), 3);
        Check.is("kept of the old sale", x.kept(0, 0), 1);
        Check.is("released of the old sale", x.released(0), 3000);
        Check.is("paid of the new sale", x.paid(2), 7125);
        Check.is("kept of the new sale", x.kept(2, 0), 3);
        Check.is("keptValue of the new sale", x.keptValue(2), 7125);
        Check.is("released of the new sale", x.released(2), 0);
        Check.is("stock of the old product", x.stock(0, BackhaulReturns.REPAIR), 3);
        Check.is("stock of the new product", x.stock(9, BackhaulReturns.REPAIR), 0);
        Check.is("score of the customer", x.score(3), 35);
        Check.is("giveBack of the new sale", x.giveBack(2, 0, 1, NEW), 2375);
        Check.is("score of the same customer", x.score(3), 50);
        Check.noSuch("a second line of the new sale", Scene::exchanged, y -> y.kept(1, 1));
    }

    /** "There is no fee." */
    private static void promise13TakesNoFee() {
        for (int age : new int[] {0, 14, 15, 30, 31, 60}) {
            for (int condition = 0; condition < 4; condition++) {
                BackhaulReturns x = Scene.aged(4, age);
                Check.is("exchange at an age of " + age, x.exchange(0, 0, 1, condition, 0), 0);
                Check.is("fees at an age of " + age, x.fees(), 0);
            }
        }
    }

    /** "if there is no such sale" */
    private static void promise13NoSuchSale() {
        for (int sale : Edges.outside(0, 0)) {
            Check.noSuch("exchange of sale " + sale, () -> Scene.paid(4), x -> x.exchange(sale, 0, 1, NEW, 0));
        }
        for (int sale : Edges.outside(0, 39)) {
            Check.noSuch("exchange of sale " + sale + " with 40", Scene::fullPaidLast, x -> x.exchange(sale, 0, 1, NEW, 0));
        }
        Check.noSuch("exchange without a sale", BackhaulReturns::new, x -> x.exchange(0, 0, 1, NEW, 0));
    }

    /** "or line" */
    private static void promise13NoSuchLine() {
        for (int line : Edges.outside(0, 0)) {
            Check.noSuch("exchange of line " + line, () -> Scene.paid(4), x -> x.exchange(0, line, 1, NEW, 0));
            Check.noSuch("exchange of line " + line + " by an exchange", Scene::exchanged, x -> x.exchange(1, line, 1, NEW, 0));
        }
        for (int line : Edges.outside(0, 5)) {
            Check.noSuch("exchange of line " + line + " of six", Scene::sixPaid, x -> x.exchange(0, line, 1, NEW, 0));
        }
        Check.noSuch("exchange of a sale without a line", () -> Scene.lines(), x -> x.exchange(0, 0, 1, NEW, 0));
        Check.is("exchange of the sixth line", Scene.sixPaid().exchange(0, 5, 1, NEW, 0), 994);
    }

    /** "units: 1 to 20" */
    private static void promise13UnitsAre1To20() {
        for (int units : new int[] {1, 20}) {
            BackhaulReturns x = Scene.paid(3, 10, 20);
            Check.is("exchange of " + units, x.exchange(0, 0, units, NEW, 0), 0);
            Check.is("kept after " + units, x.kept(0, 0), 20 - units);
            Check.is("kept of the new sale after " + units, x.kept(1, 0), units);
        }
        for (int units : Edges.NO_UNITS) {
            Check.badArgument("exchange of " + units, () -> Scene.paid(20), x -> x.exchange(0, 0, units, NEW, 0));
        }
    }

    /** "condition: NEW, OPENED, DAMAGED or DEFECTIVE" */
    private static void promise13Conditions() {
        int[] places = {BackhaulReturns.RESTOCK, BackhaulReturns.TEST, BackhaulReturns.REPAIR, BackhaulReturns.VENDOR};
        for (int condition = 0; condition < 4; condition++) {
            BackhaulReturns x = Scene.paid(4);
            x.exchange(0, 0, 1, condition, 0);
            Check.is("stock for condition " + condition, x.stock(0, places[condition]), 1);
        }
        for (int condition : Edges.NO_CONDITION) {
            Check.badArgument("exchange in condition " + condition, () -> Scene.paid(4), x -> x.exchange(0, 0, 1, condition, 0));
        }
    }

    /** "product: 0 to 9" */
    private static void promise13ProductIs0To9() {
        for (int product : new int[] {0, 9}) {
            BackhaulReturns x = Scene.paid(4);
            x.setProduct(product, 1234, 0, 0);
            Check.is("exchange for product " + product, x.exchange(0, 0, 1, NEW, product), 234);
        }
        for (int product : Edges.NO_PRODUCT) {
            Check.badArgument("exchange for product " + product, () -> Scene.paid(4), x -> x.exchange(0, 0, 1, NEW, product));
        }
    }

    /** "if the sale is open" */
    private static void promise13OpenSale() {
        Check.badState("exchange of an open sale", Scene::open, x -> x.exchange(0, 0, 1, NEW, 0));
        BackhaulReturns x = Scene.open();
        x.pay(0);
        Check.is("exchange as soon as it is paid", x.exchange(0, 0, 1, NEW, 0), 0);
    }

    /** "its age is above 60" */
    private static void promise13AgeAbove60() {
        Check.is("exchange at an age of 60", Scene.aged(4, 60).exchange(0, 0, 1, NEW, 0), 0);
        Check.badState("exchange at an age of 61", () -> Scene.aged(4, 61), x -> x.exchange(0, 0, 1, NEW, 0));
        Check.badState("exchange at 61, DEFECTIVE", () -> Scene.aged(4, 61), x -> x.exchange(0, 0, 1, DEFECTIVE, 0));
        for (int sale = 0; sale < 3; sale++) {
            int s = sale;
            Check.is("exchange in a chain at 60", Scene.chainOfTwo(60).exchange(s, 0, 1, NEW, 4), 0);
            Check.badState("exchange in a chain at 61", () -> Scene.chainOfTwo(61), x -> x.exchange(s, 0, 1, NEW, 4));
        }
    }

    /** "fewer units are kept" */
    private static void promise13FewerUnitsKept() {
        Check.is("exchange of 4 of 4", Scene.paid(4).exchange(0, 0, 4, NEW, 0), 0);
        Check.badState("exchange of 5 of 4", () -> Scene.paid(4), x -> x.exchange(0, 0, 5, NEW, 0));
        Check.badState("exchange of 20 of 19", () -> Scene.paid(19), x -> x.exchange(0, 0, 20, NEW, 0));
        Check.badState("exchange of 1 of 0", Scene::allBack, x -> x.exchange(0, 0, 1, NEW, 0));
        Check.badState("exchange of 2 of 1, after an exchange", Scene::exchanged, x -> x.exchange(0, 0, 2, NEW, 0));
        Check.badState("exchange of 2 of 1, by an exchange", Scene::exchanged, x -> x.exchange(1, 0, 2, NEW, 0));
    }

    /** "the customer is blocked" */
    private static void promise13BlockedCustomer() {
        Check.is("exchange with a score of 95", Scene.nearlyBlocked().exchange(0, 0, 1, NEW, 0), 100);
        Check.badState("exchange with a score of 100", Scene::blocked, x -> x.exchange(0, 0, 1, NEW, 0));
        BackhaulReturns other = Scene.blocked();
        other.open(4);
        other.add(1, 0, 1);
        other.pay(1);
        Check.is("exchange of another customer", other.exchange(1, 0, 1, NEW, 0), 0);
    }

    /** "or there are 40 sales" */
    private static void promise13FortySales() {
        BackhaulReturns x = Scene.crowded(39);
        Check.is("exchange with 39 sales", x.exchange(0, 0, 10, NEW, 1), 1000);
        Check.is("sales then", x.sales(), 40);
        Check.is("kept of the 40th sale", x.kept(39, 0), 10);
        Check.is("firstSale of the 40th sale", x.firstSale(39), 0);
        Check.badState("exchange with 40 sales", Scene::full, y -> y.exchange(0, 0, 1, NEW, 0));
        Check.is("giveBack with 40 sales", Scene.full().giveBack(0, 0, 10, NEW), 8000);
    }

    /** "if several apply, the one that it lists first is thrown" */
    private static void promise13FirstListedIsThrown() {
        for (int sale : Edges.outside(0, 0)) {
            Check.noSuch("exchange, all wrong, sale " + sale, Scene::open, x -> x.exchange(sale, 9, 0, 9, 10));
        }
        for (int line : Edges.outside(0, 0)) {
            Check.noSuch("exchange, all wrong, line " + line, Scene::open, x -> x.exchange(0, line, 0, 9, 10));
        }
        for (int units : Edges.NO_UNITS) {
            Check.badArgument("exchange of " + units + ", open", Scene::open, x -> x.exchange(0, 0, units, NEW, 0));
            Check.badArgument("exchange of " + units + " with 40", Scene::full, x -> x.exchange(0, 0, units, NEW, 0));
        }
        for (int condition : Edges.NO_CONDITION) {
            Check.badArgument("exchange in " + condition + ", blocked", Scene::blocked, x -> x.exchange(0, 0, 1, condition, 0));
            Check.badArgument("exchange in " + condition + " at 61", () -> Scene.aged(4, 61), x -> x.exchange(0, 0, 1, condition, 0));
        }
        for (int product : Edges.NO_PRODUCT) {
            Check.badArgument("exchange for " + product + " of 5 of 4", () -> Scene.paid(4), x -> x.exchange(0, 0, 5, NEW, product));
            Check.badArgument("exchange for " + product + " with 40", Scene::full, x -> x.exchange(0, 0, 1, NEW, product));
        }
    }
}
