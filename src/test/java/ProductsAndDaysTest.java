/** Promises 1 to 3: a new object, setProduct, pass. */
public final class ProductsAndDaysTest {
    private static final int NEW = BackhaulReturns.NEW;
    private static final int OPENED = BackhaulReturns.OPENED;
    private static final int DAMAGED = BackhaulReturns.DAMAGED;
    private static final int DEFECTIVE = BackhaulReturns.DEFECTIVE;
    private static final int REPAIR = BackhaulReturns.REPAIR;
    private static final int SALVAGE = BackhaulReturns.SALVAGE;

    public static void main(String[] args) {
        promise1NoSales();
        promise1NothingElse();
        promise1TheDayIs0();
        promise1FirstValuesOfProducts();
        promise1ObjectsAreApart();
        promise2Changes();
        promise2ReturnsThePreviousPrice();
        promise2ProductIs0To9();
        promise2PriceIs1To100000();
        promise2SalvageIs0To100000();
        promise2RepairIs0To100000();
        promise2SeveralWrong();
        promise3ReturnsTheDayThen();
        promise3DaysAre1To365();
        promise3NoDayAbove100000();
        promise3ArgumentComesFirst();
        Check.finish("ProductsAndDaysTest");
    }

    /** "No sales" */
    private static void promise1NoSales() {
        Check.is("sales() of a new object", new BackhaulReturns().sales(), 0);
        for (int sale : new int[] {0, 1, 39, 40, -1}) {
            Check.noSuch("paid(" + sale + ") of a new object", BackhaulReturns::new, x -> x.paid(sale));
        }
    }

    private static void promise1NothingElse() {
        BackhaulReturns x = new BackhaulReturns();
        Check.is("fees() of a new object", x.fees(), 0);
        for (int i = 0; i < 10; i++) {
            Check.is("score(" + i + ") of a new object", x.score(i), 0);
            for (int place = 0; place < 5; place++) {
                Check.is("stock(" + i + ", " + place + ") of a new object", x.stock(i, place), 0);
            }
        }
    }

    /** "the day is 0" */
    private static void promise1TheDayIs0() {
        Check.is("pass(1) of a new object", new BackhaulReturns().pass(1), 1);
        Check.is("pass(365) of a new object", new BackhaulReturns().pass(365), 365);
    }

    /** "a price, a salvage value and a repair cost, at first 1000, 200 and 300" */
    private static void promise1FirstValuesOfProducts() {
        for (int product = 0; product < 10; product++) {
            BackhaulReturns x = new BackhaulReturns();
            Check.is("first worth NEW", x.bestWorth(product, NEW), 100000);
            Check.is("first worth OPENED", x.bestWorth(product, OPENED), 73000);
            Check.is("first worth DAMAGED", x.bestWorth(product, DAMAGED), 50000);
            Check.is("first worth DEFECTIVE", x.bestWorth(product, DEFECTIVE), 60000);
            Check.is("first price", x.setProduct(product, 1, 0, 0), 1000);
        }
    }

    private static void promise1ObjectsAreApart() {
        BackhaulReturns used = Scene.paid(4);
        used.setProduct(0, 7, 7, 7);
        used.pass(5);
        used.giveBack(0, 0, 1, NEW);
        BackhaulReturns fresh = new BackhaulReturns();
        Check.is("sales() of another object", fresh.sales(), 0);
        Check.is("score(3) of another object", fresh.score(3), 0);
        Check.is("stock(0, 0) of another object", fresh.stock(0, 0), 0);
        Check.is("price in another object", fresh.setProduct(0, 1, 1, 1), 1000);
        Check.is("day of another object", fresh.pass(1), 1);
    }

    private static void promise2Changes() {
        BackhaulReturns x = new BackhaulReturns();
        x.setProduct(4, 500, 600, 100);
        Check.is("price now", x.bestWorth(4, NEW), 50000);
        Check.is("salvage value now", x.bestWorth(4, DAMAGED), 60000);
        x.setProduct(4, 500, 0, 100);
        Check.is("repair cost now", x.bestWorth(4, DAMAGED), 30000);
        Check.is("another product as before", x.bestWorth(5, DAMAGED), 50000);
        Check.is("price of another product as before", x.setProduct(5, 1, 1, 1), 1000);
    }

    /** "Returns the previous price." */
    private static void promise2ReturnsThePreviousPrice() {
        BackhaulReturns x = new BackhaulReturns();
        Check.is("setProduct(4, ..) at first", x.setProduct(4, 2000, 300, 400), 1000);
        Check.is("setProduct(4, ..) again", x.setProduct(4, 500, 600, 100), 2000);
        Check.is("setProduct(4, ..) with the same price", x.setProduct(4, 500, 1, 2), 500);
        Check.is("setProduct(4, ..) after that", x.setProduct(4, 1, 1, 2), 500);
        wrongProduct(4, 0, 1, 2);
        Check.is("setProduct(4, ..) at last", x.setProduct(4, 9, 1, 2), 1);
    }

    /** "product: 0 to 9" */
    private static void promise2ProductIs0To9() {
        for (int product : new int[] {0, 9}) {
            BackhaulReturns x = new BackhaulReturns();
            x.setProduct(product, 7, 0, 0);
            Check.is("price of product " + product, x.bestWorth(product, NEW), 700);
            Check.is("price of its neighbour", x.bestWorth(product == 0 ? 1 : 8, NEW), 100000);
        }
        for (int product : Edges.NO_PRODUCT) {
            wrongProduct(product, 1, 0, 0);
        }
    }

    /** "price: 1 to 100000" */
    private static void promise2PriceIs1To100000() {
        BackhaulReturns x = new BackhaulReturns();
        x.setProduct(0, 1, 0, 0);
        Check.is("worth at the least price", x.bestWorth(0, NEW), 100);
        Check.is("the least price", x.setProduct(0, 100000, 0, 0), 1);
        Check.is("worth at the greatest price", x.bestWorth(0, NEW), 10000000);
        Check.is("the greatest price", x.setProduct(0, 5, 0, 0), 100000);
        for (int price : Edges.outside(1, 100000)) {
            wrongProduct(0, price, 100000, 0);
        }
    }

    /** "salvage: 0 to 100000" */
    private static void promise2SalvageIs0To100000() {
        BackhaulReturns x = new BackhaulReturns();
        x.setProduct(0, 1, 0, 100000);
        Check.is("option at the least salvage value", x.bestOption(0, DAMAGED), SALVAGE);
        Check.is("worth at the least salvage value", x.bestWorth(0, DAMAGED), 0);
        x.setProduct(0, 1, 100000, 100000);
        Check.is("worth at the greatest salvage value", x.bestWorth(0, DAMAGED), 10000000);
        for (int salvage : Edges.outside(0, 100000)) {
            wrongProduct(0, 1, salvage, 0);
        }
    }

    /** "repair: 0 to 100000" */
    private static void promise2RepairIs0To100000() {
        BackhaulReturns x = new BackhaulReturns();
        x.setProduct(0, 1000, 0, 0);
        Check.is("option at the least repair cost", x.bestOption(0, DAMAGED), REPAIR);
        Check.is("worth at the least repair cost", x.bestWorth(0, DAMAGED), 80000);
        x.setProduct(0, 100000, 0, 100000);
        Check.is("option at the greatest repair cost", x.bestOption(0, DAMAGED), SALVAGE);
        Check.is("worth OPENED at the greatest repair cost", x.bestWorth(0, OPENED), 6795000);
        for (int repair : Edges.outside(0, 100000)) {
            wrongProduct(0, 1, 100000, repair);
        }
    }

    private static void promise2SeveralWrong() {
        wrongProduct(10, 0, -1, 100001);
        wrongProduct(0, 0, 100001, 0);
        wrongProduct(0, 100001, 0, -1);
    }

    private static void wrongProduct(int product, int price, int salvage, int repair) {
        Check.badArgument("setProduct(" + product + ", " + price + ", " + salvage + ", " + repair + ")",
                BackhaulReturns::new, x -> x.setProduct(product, price, salvage, repair));
    }

    /** "Returns the day then." */
    private static void promise3ReturnsTheDayThen() {
        BackhaulReturns x = new BackhaulReturns();
        Check.is("pass(1)", x.pass(1), 1);
        Check.is("pass(365)", x.pass(365), 366);
        Check.is("pass(34)", x.pass(34), 400);
    }

    /** "days: 1 to 365" */
    private static void promise3DaysAre1To365() {
        BackhaulReturns x = new BackhaulReturns();
        Check.is("the fewest days", x.pass(1), 1);
        Check.is("the most days", x.pass(365), 366);
        for (int days : Edges.outside(1, 365)) {
            Check.badArgument("pass(" + days + ")", BackhaulReturns::new, y -> y.pass(days));
        }
    }

    /** "if the day would be above 100000" */
    private static void promise3NoDayAbove100000() {
        Check.is("pass(1) to the last day", onDay(99999).pass(1), 100000);
        Check.is("pass(365) to the last day", onDay(99635).pass(365), 100000);
        Check.badState("pass(2) on day 99999", () -> onDay(99999), x -> x.pass(2));
        Check.badState("pass(365) on day 99636", () -> onDay(99636), x -> x.pass(365));
        Check.badState("pass(1) on day 100000", () -> onDay(100000), x -> x.pass(1));
        Check.badState("pass(365) on day 100000", () -> onDay(100000), x -> x.pass(365));
        BackhaulReturns x = onDay(99999);
        Check.holds("pass(2) on day 99999 throws", Check.thrownBy(() -> x.pass(2)) == IllegalStateException.class);
        Check.is("pass(1) after a refused pass", x.pass(1), 100000);
    }

    private static void promise3ArgumentComesFirst() {
        for (int days : Edges.outside(1, 365)) {
            Check.badArgument("pass(" + days + ") on day 100000", () -> onDay(100000), x -> x.pass(days));
        }
    }

    private static BackhaulReturns onDay(int day) {
        BackhaulReturns x = new BackhaulReturns();
        int left = day;
        while (left > 0) {
            int days = Math.min(left, 365);
            x.pass(days);
            left -= days;
        }
        return x;
    }
}
