/** Promises 1 to 3: a new object, setProduct, pass. */
public final class ProductsAndDaysTest {
    public static void main(String[] args) {
        promise1NothingIsThere();
        promise1FirstValuesOfProducts();
        promise1ObjectsAreApart();
        promise2Changes();
        promise2Edges();
        promise2Refusals();
        promise3CountsDays();
        promise3LastDay();
        promise3Refusals();
        Check.finish("ProductsAndDaysTest");
    }

    private static void promise1NothingIsThere() {
        BackhaulReturns x = new BackhaulReturns();
        Check.is("sales() of a new object", x.sales(), 0);
        Check.is("fees() of a new object", x.fees(), 0);
        for (int i = 0; i < 10; i++) {
            Check.is("score(" + i + ") of a new object", x.score(i), 0);
            for (int place = 0; place < 5; place++) {
                Check.is("stock(" + i + ", " + place + ") of a new object", x.stock(i, place), 0);
            }
        }
        Check.is("pass(1) on day 0", x.pass(1), 1);
        Check.noSuch("paid(0) of a new object", BackhaulReturns::new, y -> y.paid(0));
    }

    private static void promise1FirstValuesOfProducts() {
        for (int product = 0; product < 10; product++) {
            BackhaulReturns x = new BackhaulReturns();
            Check.is("first worth NEW", x.bestWorth(product, BackhaulReturns.NEW), 100000);
            Check.is("first worth OPENED", x.bestWorth(product, BackhaulReturns.OPENED), 73000);
            Check.is("first worth DAMAGED", x.bestWorth(product, BackhaulReturns.DAMAGED), 50000);
            Check.is("first worth DEFECTIVE", x.bestWorth(product, BackhaulReturns.DEFECTIVE), 60000);
            Check.is("first price", x.setProduct(product, 1, 0, 0), 1000);
        }
    }

    private static void promise1ObjectsAreApart() {
        BackhaulReturns used = Scene.paid(4);
        used.setProduct(0, 7, 7, 7);
        used.pass(5);
        used.giveBack(0, 0, 1, BackhaulReturns.NEW);
        BackhaulReturns fresh = new BackhaulReturns();
        Check.is("sales() of another object", fresh.sales(), 0);
        Check.is("score(3) of another object", fresh.score(3), 0);
        Check.is("stock(0, 0) of another object", fresh.stock(0, 0), 0);
        Check.is("price in another object", fresh.setProduct(0, 1, 1, 1), 1000);
        Check.is("day of another object", fresh.pass(1), 1);
    }

    private static void promise2Changes() {
        BackhaulReturns x = new BackhaulReturns();
        Check.is("setProduct(4, ..) at first", x.setProduct(4, 2000, 300, 400), 1000);
        Check.is("setProduct(4, ..) again", x.setProduct(4, 500, 600, 100), 2000);
        Check.is("price now", x.bestWorth(4, BackhaulReturns.NEW), 50000);
        Check.is("salvage value now", x.bestWorth(4, BackhaulReturns.DAMAGED), 60000);
        x.setProduct(4, 500, 0, 100);
        Check.is("repair cost now", x.bestWorth(4, BackhaulReturns.DAMAGED), 30000);
        Check.is("another product as before", x.bestWorth(5, BackhaulReturns.DAMAGED), 50000);
        Check.is("price of another product as before", x.setProduct(5, 1, 1, 1), 1000);
    }

    private static void promise2Edges() {
        BackhaulReturns x = new BackhaulReturns();
        Check.is("least of all", x.setProduct(0, 1, 0, 0), 1000);
        Check.is("greatest of all", x.setProduct(9, 100000, 100000, 100000), 1000);
        Check.is("least price", x.setProduct(0, 5, 5, 5), 1);
        Check.is("greatest price", x.setProduct(9, 5, 5, 5), 100000);
    }

    private static void promise2Refusals() {
        int[][] wrong = {
            {-1, 1, 0, 0}, {10, 1, 0, 0}, {Integer.MIN_VALUE, 1, 0, 0}, {Integer.MAX_VALUE, 1, 0, 0},
            {0, 0, 0, 0}, {0, -1, 0, 0}, {0, 100001, 0, 0}, {0, Integer.MIN_VALUE, 0, 0},
            {0, Integer.MAX_VALUE, 0, 0}, {0, 1, -1, 0}, {0, 1, 100001, 0}, {0, 1, Integer.MIN_VALUE, 0},
            {0, 1, 0, -1}, {0, 1, 0, 100001}, {0, 1, 0, Integer.MAX_VALUE},
        };
        for (int[] a : wrong) {
            Check.badArgument("setProduct(" + a[0] + ", " + a[1] + ", " + a[2] + ", " + a[3] + ")",
                    BackhaulReturns::new, x -> x.setProduct(a[0], a[1], a[2], a[3]));
        }
    }

    private static void promise3CountsDays() {
        BackhaulReturns x = new BackhaulReturns();
        Check.is("pass(1)", x.pass(1), 1);
        Check.is("pass(365)", x.pass(365), 366);
        Check.is("pass(34)", x.pass(34), 400);
    }

    private static void promise3LastDay() {
        BackhaulReturns x = onDay99999();
        Check.is("pass(1) to the last day", x.pass(1), 100000);
        Check.badState("pass(2) on day 99999", ProductsAndDaysTest::onDay99999, y -> y.pass(2));
        Check.badState("pass(365) on day 99999", ProductsAndDaysTest::onDay99999, y -> y.pass(365));
        Check.badState("pass(1) on day 100000", ProductsAndDaysTest::onLastDay, y -> y.pass(1));
        Check.badArgument("pass(366) on day 100000", ProductsAndDaysTest::onLastDay, y -> y.pass(366));
    }

    private static BackhaulReturns onDay99999() {
        BackhaulReturns x = new BackhaulReturns();
        for (int i = 0; i < 273; i++) {
            x.pass(365);
        }
        x.pass(99999 - 273 * 365);
        return x;
    }

    private static BackhaulReturns onLastDay() {
        BackhaulReturns x = onDay99999();
        x.pass(1);
        return x;
    }

    private static void promise3Refusals() {
        for (int days : new int[] {0, -1, 366, Integer.MIN_VALUE, Integer.MAX_VALUE}) {
            Check.badArgument("pass(" + days + ")", BackhaulReturns::new, x -> x.pass(days));
        }
    }
}
