/** Promises 12 to 18: giveBack, exchange, quote, released, fees, firstSale, exchanges. */
public final class ReturnsTest {
    private static final int NEW = BackhaulReturns.NEW;
    private static final int OPENED = BackhaulReturns.OPENED;
    private static final int DAMAGED = BackhaulReturns.DAMAGED;
    private static final int DEFECTIVE = BackhaulReturns.DEFECTIVE;

    private static final int[] NO_SALE = {-1, 1, 39, 40, Integer.MIN_VALUE, Integer.MAX_VALUE};
    private static final int[] NO_LINE = {-1, 1, 5, 6, Integer.MIN_VALUE, Integer.MAX_VALUE};
    private static final int[] NO_UNITS = {0, -1, 21, Integer.MIN_VALUE, Integer.MAX_VALUE};
    private static final int[] NO_CONDITION = {-1, 4, Integer.MIN_VALUE, Integer.MAX_VALUE};
    private static final int[] NO_PRODUCT = {-1, 10, Integer.MIN_VALUE, Integer.MAX_VALUE};

    public static void main(String[] args) {
        promise12TakesDiscountsBack();
        promise12ReleasesNotBelowZero();
        promise12FeesByAge();
        promise12RoundsFeesDown();
        promise12ChangesWhatItSays();
        promise12Refusals();
        promise12States();
        promise13Pays();
        promise13MakesASale();
        promise13TakesNoFee();
        promise13Refusals();
        promise13States();
        promise14SaysWhatAReturnRefunds();
        promise14AsksNoScore();
        promise14Refusals();
        promise15SumsUp();
        promise16SumsUp();
        promises17And18Trace();
        promises15To18Refusals();
        ageIsThatOfTheFirstSale();
        Check.finish("ReturnsTest");
    }

    private static void promise12TakesDiscountsBack() {
        BackhaulReturns x = Scene.paid(10);
        // 9000 paid; 8 kept are 7600, 5 kept 4750, 4 kept 4000.
        Check.is("2 of 10 back", x.giveBack(0, 0, 2, NEW), 1400);
        Check.is("3 of 8 back", x.giveBack(0, 0, 3, OPENED), 2850);
        Check.is("1 of 5 back", x.giveBack(0, 0, 1, DAMAGED), 750);
        Check.is("kept", x.kept(0, 0), 4);
        x.pass(30);
        Check.is("the rest back", x.giveBack(0, 0, 4, DEFECTIVE), 4000);
        Check.is("released", x.released(0), 9000);
        Check.is("20 of 20 back at once", Scene.paid(20).giveBack(0, 0, 20, NEW), 17000);
    }

    private static void promise12ReleasesNotBelowZero() {
        BackhaulReturns x = Scene.paid(20);
        // 17000 paid, 19 kept would be 17100; 18 kept are 16200.
        Check.is("1 of 20 back", x.giveBack(0, 0, 1, NEW), 0);
        Check.is("released", x.released(0), 0);
        Check.is("1 of 19 back", x.giveBack(0, 0, 1, NEW), 800);
        Check.is("released then", x.released(0), 800);
    }

    private static void promise12FeesByAge() {
        int[][] due = {{0, 1000}, {14, 1000}, {15, 850}, {30, 850}, {31, 500}, {60, 500}};
        for (int[] d : due) {
            for (int condition : new int[] {NEW, OPENED, DAMAGED}) {
                BackhaulReturns x = Scene.aged(4, d[0]);
                Check.is("giveBack at an age of " + d[0], x.giveBack(0, 0, 1, condition), d[1]);
                Check.is("fees at an age of " + d[0], x.fees(), 1000 - d[1]);
                Check.is("released at an age of " + d[0], x.released(0), 1000);
            }
            BackhaulReturns x = Scene.aged(4, d[0]);
            Check.is("giveBack, DEFECTIVE, at an age of " + d[0], x.giveBack(0, 0, 1, DEFECTIVE), 1000);
            Check.is("fees, DEFECTIVE, at an age of " + d[0], x.fees(), 0);
        }
        BackhaulReturns late = Scene.open();
        late.pass(20);
        late.pay(0);
        late.pass(14);
        Check.is("age is counted from the payment", late.giveBack(0, 0, 1, NEW), 1000);
    }

    private static void promise12RoundsFeesDown() {
        BackhaulReturns x = Scene.paid(3, 333, 4);
        x.pass(15);
        Check.is("333 less 15 percent", x.giveBack(0, 0, 1, NEW), 284);
        Check.is("666 less 15 percent", x.giveBack(0, 0, 2, NEW), 567);
        x.pass(16);
        Check.is("333 less 50 percent", x.giveBack(0, 0, 1, NEW), 167);
        Check.is("fees", x.fees(), 49 + 99 + 166);
        BackhaulReturns great = greatSale();
        great.pass(31);
        // 10200000 paid, of 12000000; then 10000000 are kept: 8500000.
        Check.is("great amounts", great.giveBack(0, 0, 20, NEW), 850000);
    }

    private static BackhaulReturns greatSale() {
        BackhaulReturns x = new BackhaulReturns();
        x.setProduct(0, 100000, 0, 0);
        x.open(0);
        for (int line = 0; line < 6; line++) {
            x.add(0, 0, 20);
        }
        x.pay(0);
        return x;
    }

    private static void promise12ChangesWhatItSays() {
        BackhaulReturns x = new BackhaulReturns();
        x.open(3);
        x.add(0, 0, 3);
        x.add(0, 1, 3);
        x.pay(0);
        x.setProduct(1, 1, 500, 0);
        Check.is("giveBack of line 1, at the line's price", x.giveBack(0, 1, 2, DAMAGED), 5700 - 4000);
        Check.is("kept of line 0", x.kept(0, 0), 3);
        Check.is("kept of line 1", x.kept(0, 1), 1);
        Check.is("paid", x.paid(0), 5700);
        Check.is("stock by the values now", x.stock(1, BackhaulReturns.SALVAGE), 2);
        Check.is("stock of another product", x.stock(0, BackhaulReturns.SALVAGE), 0);
        Check.is("score", x.score(3), 25);
        Check.is("score of another customer", x.score(0), 0);
        Check.is("sales", x.sales(), 1);
    }

    private static void promise12Refusals() {
        for (int sale : NO_SALE) {
            Check.noSuch("giveBack of sale " + sale, () -> Scene.paid(4), x -> x.giveBack(sale, 0, 1, NEW));
            Check.noSuch("giveBack of sale " + sale + ", all wrong", Scene::open, x -> x.giveBack(sale, 9, 0, 9));
        }
        for (int line : NO_LINE) {
            Check.noSuch("giveBack of line " + line, () -> Scene.paid(4), x -> x.giveBack(0, line, 1, NEW));
            Check.noSuch("giveBack of line " + line + ", all wrong", Scene::open, x -> x.giveBack(0, line, 0, 9));
        }
        for (int units : NO_UNITS) {
            Check.badArgument("giveBack of units " + units, () -> Scene.paid(4), x -> x.giveBack(0, 0, units, NEW));
            Check.badArgument("giveBack of units " + units + " of an open sale", Scene::open, x -> x.giveBack(0, 0, units, NEW));
            Check.badArgument("giveBack of units " + units + ", blocked", Scene::blocked, x -> x.giveBack(0, 0, units, NEW));
        }
        for (int condition : NO_CONDITION) {
            Check.badArgument("giveBack in condition " + condition, () -> Scene.paid(4), x -> x.giveBack(0, 0, 1, condition));
            Check.badArgument("giveBack in condition " + condition + " at 61", () -> Scene.aged(4, 61), x -> x.giveBack(0, 0, 1, condition));
        }
    }

    private static void promise12States() {
        Check.badState("giveBack of an open sale", Scene::open, x -> x.giveBack(0, 0, 1, NEW));
        Check.badState("giveBack at an age of 61", () -> Scene.aged(4, 61), x -> x.giveBack(0, 0, 1, DEFECTIVE));
        Check.badState("giveBack of 5 of 4", () -> Scene.paid(4), x -> x.giveBack(0, 0, 5, NEW));
        Check.badState("giveBack of 12 of 11", ReturnsTest::nineBack, x -> x.giveBack(0, 0, 12, NEW));
        Check.badState("giveBack of a blocked customer", Scene::blocked, x -> x.giveBack(0, 0, 1, NEW));
        BackhaulReturns near = nineBack();
        Check.is("score just below", near.score(3), 95);
        Check.is("giveBack with a score of 95", near.giveBack(0, 0, 10, NEW), 8900);
        Check.is("score then", near.score(3), 200);
        BackhaulReturns other = Scene.blocked();
        other.open(4);
        other.add(1, 0, 1);
        other.pay(1);
        Check.is("giveBack of another customer", other.giveBack(1, 0, 1, NEW), 1000);
        BackhaulReturns later = Scene.blocked();
        later.pass(30);
        Check.is("giveBack when the block has ended", later.giveBack(0, 0, 1, DEFECTIVE), 900);
    }

    /** As paid(20); then 9 units were returned at once, which makes a score of 95. */
    private static BackhaulReturns nineBack() {
        BackhaulReturns x = Scene.paid(20);
        x.giveBack(0, 0, 9, NEW);
        return x;
    }

    private static void promise13Pays() {
        BackhaulReturns x = Scene.paid(4);
        x.setProduct(1, 1500, 0, 0);
        x.setProduct(2, 400, 0, 0);
        Check.is("exchange for a dearer product", x.exchange(0, 0, 1, NEW, 1), 500);
        Check.is("exchange for a cheaper product", x.exchange(0, 0, 1, NEW, 2), -600);
        Check.is("exchange for the same product", x.exchange(0, 0, 1, NEW, 0), 0);
        x.setProduct(0, 1200, 0, 0);
        Check.is("exchange at the price now", x.exchange(0, 0, 1, NEW, 0), 200);
        BackhaulReturns discounts = Scene.paid(10);
        // 9000 paid, 4750 for 5 kept; 5 new ones are 4750 again.
        Check.is("exchange with discounts", discounts.exchange(0, 0, 5, NEW, 1), 500);
        BackhaulReturns below = Scene.paid(20);
        Check.is("exchange that releases nothing", below.exchange(0, 0, 1, NEW, 1), 1000);
    }

    private static void promise13MakesASale() {
        BackhaulReturns x = Scene.paid(4);
        x.open(7);
        x.setProduct(9, 2500, 0, 0);
        x.exchange(0, 0, 3, DAMAGED, 9);
        Check.is("sales", x.sales(), 3);
        Check.is("kept of the old sale", x.kept(0, 0), 1);
        Check.is("released of the old sale", x.released(0), 3000);
        Check.is("paid of the new sale", x.paid(2), 7125);
        Check.is("kept of the new sale", x.kept(2, 0), 3);
        Check.is("keptValue of the new sale", x.keptValue(2), 7125);
        Check.is("released of the new sale", x.released(2), 0);
        Check.is("stock of the old product", x.stock(0, BackhaulReturns.REPAIR), 3);
        Check.is("stock of the new product", x.stock(9, BackhaulReturns.REPAIR), 0);
        Check.is("score of the customer", x.score(3), 35);
        Check.is("giveBack of the new sale", x.giveBack(2, 0, 1, NEW), 2375);
        Check.is("score of the same customer", x.score(3), 50);
        Check.noSuch("a second line of the new sale", ReturnsTest::exchangedOnce, y -> y.kept(1, 1));
    }

    private static BackhaulReturns exchangedOnce() {
        BackhaulReturns x = Scene.paid(4);
        x.exchange(0, 0, 2, NEW, 1);
        return x;
    }

    private static void promise13TakesNoFee() {
        for (int age : new int[] {15, 31, 60}) {
            BackhaulReturns x = Scene.aged(4, age);
            Check.is("exchange at an age of " + age, x.exchange(0, 0, 1, NEW, 0), 0);
            Check.is("fees at an age of " + age, x.fees(), 0);
        }
    }

    private static void promise13Refusals() {
        for (int sale : NO_SALE) {
            Check.noSuch("exchange of sale " + sale, () -> Scene.paid(4), x -> x.exchange(sale, 0, 1, NEW, 0));
            Check.noSuch("exchange of sale " + sale + ", all wrong", Scene::open, x -> x.exchange(sale, 9, 0, 9, 10));
        }
        for (int line : NO_LINE) {
            Check.noSuch("exchange of line " + line, () -> Scene.paid(4), x -> x.exchange(0, line, 1, NEW, 0));
            Check.noSuch("exchange of line " + line + ", all wrong", Scene::open, x -> x.exchange(0, line, 0, 9, 10));
        }
        for (int units : NO_UNITS) {
            Check.badArgument("exchange of units " + units, () -> Scene.paid(4), x -> x.exchange(0, 0, units, NEW, 0));
            Check.badArgument("exchange of units " + units + ", full", Scene::full, x -> x.exchange(0, 0, units, NEW, 0));
        }
        for (int condition : NO_CONDITION) {
            Check.badArgument("exchange in condition " + condition, () -> Scene.paid(4), x -> x.exchange(0, 0, 1, condition, 0));
            Check.badArgument("exchange in condition " + condition + ", blocked", Scene::blocked, x -> x.exchange(0, 0, 1, condition, 0));
        }
        for (int product : NO_PRODUCT) {
            Check.badArgument("exchange for product " + product, () -> Scene.paid(4), x -> x.exchange(0, 0, 1, NEW, product));
            Check.badArgument("exchange for product " + product + ", open", Scene::open, x -> x.exchange(0, 0, 1, NEW, product));
        }
    }

    private static void promise13States() {
        Check.badState("exchange of an open sale", Scene::open, x -> x.exchange(0, 0, 1, NEW, 0));
        Check.badState("exchange at an age of 61", () -> Scene.aged(4, 61), x -> x.exchange(0, 0, 1, NEW, 0));
        Check.badState("exchange of 5 of 4", () -> Scene.paid(4), x -> x.exchange(0, 0, 5, NEW, 0));
        Check.badState("exchange of a blocked customer", Scene::blocked, x -> x.exchange(0, 0, 1, NEW, 0));
        Check.badState("exchange with 40 sales", Scene::full, x -> x.exchange(0, 0, 1, NEW, 0));
        BackhaulReturns full = Scene.full();
        Check.is("giveBack with 40 sales", full.giveBack(0, 0, 10, NEW), 8000);
        Check.is("exchange with a score of 95", nineBack().exchange(0, 0, 1, NEW, 0), 100);
    }

    private static void promise14SaysWhatAReturnRefunds() {
        for (int age : new int[] {0, 14, 15, 30, 31, 60}) {
            for (int condition = NEW; condition <= DEFECTIVE; condition++) {
                for (int units : new int[] {1, 5, 10}) {
                    BackhaulReturns x = Scene.aged(10, age);
                    int quoted = x.quote(0, 0, units, condition);
                    Check.is("giveBack of " + units + " as quoted", x.giveBack(0, 0, units, condition), quoted);
                }
            }
        }
        BackhaulReturns x = Scene.aged(10, 15);
        Check.is("quote of 2", x.quote(0, 0, 2, NEW), 1190);
        Check.is("quote of 2, DEFECTIVE", x.quote(0, 0, 2, DEFECTIVE), 1400);
        Check.is("quote below zero", Scene.paid(20).quote(0, 0, 1, NEW), 0);
        String before = Picture.of(Scene.aged(10, 15));
        Check.holds("quote changes nothing", before.equals(Picture.of(x)));
    }

    private static void promise14AsksNoScore() {
        Check.is("quote of a blocked customer", Scene.blocked().quote(0, 0, 1, NEW), 900);
        Check.is("quote with 40 sales", Scene.full().quote(0, 0, 10, NEW), 8000);
    }

    private static void promise14Refusals() {
        for (int sale : NO_SALE) {
            Check.noSuch("quote of sale " + sale, () -> Scene.paid(4), x -> x.quote(sale, 0, 1, NEW));
            Check.noSuch("quote of sale " + sale + ", all wrong", Scene::open, x -> x.quote(sale, 9, 0, 9));
        }
        for (int line : NO_LINE) {
            Check.noSuch("quote of line " + line, () -> Scene.paid(4), x -> x.quote(0, line, 1, NEW));
            Check.noSuch("quote of line " + line + ", all wrong", Scene::open, x -> x.quote(0, line, 0, 9));
        }
        for (int units : NO_UNITS) {
            Check.badArgument("quote of units " + units, () -> Scene.paid(4), x -> x.quote(0, 0, units, NEW));
            Check.badArgument("quote of units " + units + ", open", Scene::open, x -> x.quote(0, 0, units, NEW));
        }
        for (int condition : NO_CONDITION) {
            Check.badArgument("quote in condition " + condition, () -> Scene.paid(4), x -> x.quote(0, 0, 1, condition));
            Check.badArgument("quote in condition " + condition + " at 61", () -> Scene.aged(4, 61), x -> x.quote(0, 0, 1, condition));
        }
        Check.badState("quote of an open sale", Scene::open, x -> x.quote(0, 0, 1, NEW));
        Check.badState("quote at an age of 61", () -> Scene.aged(4, 61), x -> x.quote(0, 0, 1, DEFECTIVE));
        Check.badState("quote of 5 of 4", () -> Scene.paid(4), x -> x.quote(0, 0, 5, NEW));
    }

    private static void promise15SumsUp() {
        BackhaulReturns x = Scene.open();
        Check.is("released of an open sale", x.released(0), 0);
        x.pay(0);
        Check.is("released of a paid sale", x.released(0), 0);
        x.pass(31);
        x.giveBack(0, 0, 1, NEW);
        Check.is("released, the fee included", x.released(0), 1000);
        x.exchange(0, 0, 2, NEW, 1);
        Check.is("released by an exchange too", x.released(0), 3000);
        Check.is("released of the new sale", x.released(1), 0);
        x.giveBack(1, 0, 1, NEW);
        Check.is("released of the new sale then", x.released(1), 1000);
        Check.is("released of the old sale then", x.released(0), 3000);
    }

    private static void promise16SumsUp() {
        BackhaulReturns x = Scene.paid(4);
        x.open(5);
        x.add(1, 1, 2);
        x.pay(1);
        x.pass(15);
        x.giveBack(0, 0, 1, NEW);
        Check.is("fees of one return", x.fees(), 150);
        x.quote(0, 0, 1, NEW);
        Check.is("fees after a quote", x.fees(), 150);
        x.giveBack(1, 0, 1, OPENED);
        Check.is("fees of two customers", x.fees(), 300);
        x.pass(16);
        x.giveBack(0, 0, 1, DAMAGED);
        Check.is("fees of three returns", x.fees(), 800);
        x.giveBack(1, 0, 1, DEFECTIVE);
        Check.is("fees after a DEFECTIVE unit", x.fees(), 800);
    }

    private static void promises17And18Trace() {
        BackhaulReturns x = new BackhaulReturns();
        x.open(1);
        x.open(2);
        x.add(1, 0, 4);
        dueTrace(x, 0, 0, 0);
        dueTrace(x, 1, 1, 0);
        x.pay(1);
        x.exchange(1, 0, 2, NEW, 1);
        x.exchange(1, 0, 1, NEW, 2);
        dueTrace(x, 2, 1, 1);
        dueTrace(x, 3, 1, 1);
        x.exchange(2, 0, 1, NEW, 3);
        dueTrace(x, 4, 1, 2);
        x.pass(40);
        x.exchange(4, 0, 1, NEW, 3);
        dueTrace(x, 5, 1, 3);
        x.open(2);
        dueTrace(x, 6, 6, 0);
        dueTrace(x, 1, 1, 0);
    }

    private static void dueTrace(BackhaulReturns x, int sale, int first, int exchanges) {
        Check.is("firstSale(" + sale + ")", x.firstSale(sale), first);
        Check.is("exchanges(" + sale + ")", x.exchanges(sale), exchanges);
    }

    private static void promises15To18Refusals() {
        for (int sale : NO_SALE) {
            Check.noSuch("released(" + sale + ")", () -> Scene.paid(4), x -> x.released(sale));
            Check.noSuch("firstSale(" + sale + ")", () -> Scene.paid(4), x -> x.firstSale(sale));
            Check.noSuch("exchanges(" + sale + ")", () -> Scene.paid(4), x -> x.exchanges(sale));
        }
    }

    private static void ageIsThatOfTheFirstSale() {
        BackhaulReturns x = exchangedAtTenAndTwenty();
        x.pass(10);
        // age 30 of sale 0, though sale 2 was made 10 days ago.
        Check.is("giveBack in a chain", x.giveBack(2, 0, 1, NEW), 850);
        x.pass(30);
        Check.is("giveBack in a chain at an age of 60", x.giveBack(2, 0, 1, NEW), 500);
        Check.is("exchange in a chain at an age of 60", x.exchange(1, 0, 1, NEW, 4), 0);
        Check.badState("giveBack in a chain at an age of 61", ReturnsTest::chainTooOld, y -> y.giveBack(2, 0, 1, DEFECTIVE));
        Check.badState("exchange in a chain at an age of 61", ReturnsTest::chainTooOld, y -> y.exchange(1, 0, 1, NEW, 0));
        Check.badState("quote in a chain at an age of 61", ReturnsTest::chainTooOld, y -> y.quote(1, 0, 1, NEW));
    }

    private static BackhaulReturns exchangedAtTenAndTwenty() {
        BackhaulReturns x = Scene.aged(4, 10);
        x.exchange(0, 0, 3, NEW, 1);
        x.pass(10);
        x.exchange(1, 0, 2, NEW, 2);
        return x;
    }

    private static BackhaulReturns chainTooOld() {
        BackhaulReturns x = exchangedAtTenAndTwenty();
        x.pass(41);
        return x;
    }
}
