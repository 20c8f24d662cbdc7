/** Promises 19 to 22: bestOption, bestWorth, stock, test. */
public final class ReturnedUnitsTest {
    private static final int NEW = BackhaulReturns.NEW;
    private static final int OPENED = BackhaulReturns.OPENED;
    private static final int DAMAGED = BackhaulReturns.DAMAGED;
    private static final int DEFECTIVE = BackhaulReturns.DEFECTIVE;
    private static final int RESTOCK = BackhaulReturns.RESTOCK;
    private static final int TEST = BackhaulReturns.TEST;
    private static final int REPAIR = BackhaulReturns.REPAIR;
    private static final int SALVAGE = BackhaulReturns.SALVAGE;
    private static final int VENDOR = BackhaulReturns.VENDOR;

    private static final int[] NO_PRODUCT = {-1, 10, Integer.MIN_VALUE, Integer.MAX_VALUE};
    private static final int[] NO_CONDITION = {-1, 4, Integer.MIN_VALUE, Integer.MAX_VALUE};

    public static void main(String[] args) {
        promises19And20New();
        promises19And20Opened();
        promises19And20Damaged();
        promises19And20Defective();
        promises19And20OfEachProduct();
        promises19And20Refusals();
        promise21Places();
        promise21ByTheValuesNow();
        promise21Refusals();
        promise22Sound();
        promise22NotSound();
        promise22ByTheValuesNow();
        promise22Refusals();
        Check.finish("ReturnedUnitsTest");
    }

    /** Asks for the best option with a price, salvage value and repair cost. */
    private static void due(int condition, int price, int salvage, int repair, int option, int worth) {
        BackhaulReturns x = new BackhaulReturns();
        x.setProduct(6, price, salvage, repair);
        String values = " of condition " + condition + " at " + price + ", " + salvage + ", " + repair;
        Check.is("bestOption" + values, x.bestOption(6, condition), option);
        Check.is("bestWorth" + values, x.bestWorth(6, condition), worth);
    }

    private static void promises19And20New() {
        due(NEW, 1000, 200, 300, RESTOCK, 100000);
        due(NEW, 1, 100000, 0, RESTOCK, 100);
        due(NEW, 100000, 100000, 0, RESTOCK, 10000000);
    }

    private static void promises19And20Opened() {
        due(OPENED, 1000, 200, 300, TEST, 73000);
        // TEST counts the salvage value where that is the better one.
        due(OPENED, 1000, 600, 300, TEST, 75000);
        due(OPENED, 100, 20, 300, RESTOCK, 4600);
        due(OPENED, 1, 100000, 0, SALVAGE, 10000000);
        due(OPENED, 100000, 0, 0, TEST, 8395000);
        due(OPENED, 100000, 0, 100000, TEST, 6795000);
        due(OPENED, 1, 0, 100000, RESTOCK, 46);
        // REPAIR is no option itself, though it is worth 16000 here, and TEST 5000.
        due(OPENED, 100, 10, 0, RESTOCK, 4600);
        due(OPENED, 200, 10, 0, TEST, 11800);
        // RESTOCK and TEST both 9200, by the salvage value and by the repair.
        due(OPENED, 200, 30, 300, RESTOCK, 9200);
        due(OPENED, 200, 0, 130, RESTOCK, 9200);
        due(OPENED, 200, 31, 300, TEST, 9220);
        due(OPENED, 200, 29, 300, RESTOCK, 9200);
        // TEST and SALVAGE both 15000.
        due(OPENED, 250, 150, 300, TEST, 15000);
        due(OPENED, 250, 151, 300, SALVAGE, 15100);
        // RESTOCK and SALVAGE both 4600.
        due(OPENED, 100, 46, 300, RESTOCK, 4600);
        due(OPENED, 100, 47, 300, SALVAGE, 4700);
    }

    private static void promises19And20Damaged() {
        due(DAMAGED, 1000, 200, 300, REPAIR, 50000);
        due(DAMAGED, 1000, 500, 300, REPAIR, 50000);
        due(DAMAGED, 1000, 501, 300, SALVAGE, 50100);
        due(DAMAGED, 1000, 499, 300, REPAIR, 50000);
        due(DAMAGED, 1, 0, 100000, SALVAGE, 0);
        due(DAMAGED, 100000, 0, 0, REPAIR, 8000000);
        due(DAMAGED, 10, 0, 8, REPAIR, 0);
        due(DAMAGED, 1000, 0, 800, REPAIR, 0);
        due(DAMAGED, 1000, 0, 801, SALVAGE, 0);
    }

    private static void promises19And20Defective() {
        due(DEFECTIVE, 1000, 200, 300, VENDOR, 60000);
        due(DEFECTIVE, 1000, 200, 199, REPAIR, 60100);
        due(DEFECTIVE, 1000, 601, 300, SALVAGE, 60100);
        // ties: REPAIR and VENDOR, SALVAGE and VENDOR, REPAIR and SALVAGE, all three.
        due(DEFECTIVE, 1000, 200, 200, REPAIR, 60000);
        due(DEFECTIVE, 1000, 600, 300, SALVAGE, 60000);
        due(DEFECTIVE, 1000, 700, 100, REPAIR, 70000);
        due(DEFECTIVE, 1000, 600, 200, REPAIR, 60000);
        due(DEFECTIVE, 100000, 0, 100000, VENDOR, 6000000);
    }

    private static void promises19And20OfEachProduct() {
        BackhaulReturns x = new BackhaulReturns();
        for (int product = 0; product < 10; product++) {
            x.setProduct(product, 1000 + product, 0, 0);
        }
        for (int product = 0; product < 10; product++) {
            Check.is("bestWorth of product " + product, x.bestWorth(product, NEW), 100 * (1000 + product));
            Check.is("bestOption of product " + product, x.bestOption(product, DAMAGED), REPAIR);
        }
    }

    private static void promises19And20Refusals() {
        for (int product : NO_PRODUCT) {
            Check.badArgument("bestOption of product " + product, BackhaulReturns::new, x -> x.bestOption(product, NEW));
            Check.badArgument("bestWorth of product " + product, BackhaulReturns::new, x -> x.bestWorth(product, NEW));
        }
        for (int condition : NO_CONDITION) {
            Check.badArgument("bestOption in condition " + condition, BackhaulReturns::new, x -> x.bestOption(0, condition));
            Check.badArgument("bestWorth in condition " + condition, BackhaulReturns::new, x -> x.bestWorth(0, condition));
        }
    }

    private static void dueStock(String what, BackhaulReturns x, int product, int... due) {
        for (int place = 0; place < 5; place++) {
            Check.is("stock(" + product + ", " + place + ") " + what, x.stock(product, place), due[place]);
        }
    }

    private static void promise21Places() {
        BackhaulReturns x = Scene.paid(20);
        dueStock("at first", x, 0, 0, 0, 0, 0, 0);
        x.giveBack(0, 0, 2, NEW);
        x.giveBack(0, 0, 1, OPENED);
        x.giveBack(0, 0, 1, DAMAGED);
        x.exchange(0, 0, 1, DEFECTIVE, 1);
        dueStock("after returns and an exchange", x, 0, 2, 1, 1, 0, 1);
        x.setProduct(0, 1, 500, 0);
        x.giveBack(0, 0, 1, DAMAGED);
        dueStock("after one more", x, 0, 2, 1, 1, 1, 1);
        dueStock("of the other product", x, 1, 0, 0, 0, 0, 0);
        x.giveBack(1, 0, 1, NEW);
        dueStock("of the other product then", x, 1, 1, 0, 0, 0, 0);
        dueStock("stays where it is", x, 0, 2, 1, 1, 1, 1);
    }

    private static void promise21ByTheValuesNow() {
        BackhaulReturns x = Scene.paid(4);
        x.setProduct(0, 1000, 900, 300);
        x.giveBack(0, 0, 1, OPENED);
        x.setProduct(0, 100, 0, 300);
        x.exchange(0, 0, 1, OPENED, 0);
        x.setProduct(0, 1000, 0, 100);
        x.giveBack(0, 0, 1, DEFECTIVE);
        dueStock("by the values at each return", x, 0, 1, 0, 1, 1, 0);
    }

    private static void promise21Refusals() {
        for (int product : NO_PRODUCT) {
            Check.badArgument("stock of product " + product, BackhaulReturns::new, x -> x.stock(product, RESTOCK));
        }
        for (int place : new int[] {-1, 5, Integer.MIN_VALUE, Integer.MAX_VALUE}) {
            Check.badArgument("stock at place " + place, BackhaulReturns::new, x -> x.stock(0, place));
        }
    }

    /** Some units of product 0 are at the place TEST. */
    private static BackhaulReturns testing(int units) {
        BackhaulReturns x = Scene.paid(4);
        x.giveBack(0, 0, units, OPENED);
        return x;
    }

    private static void promise22Sound() {
        BackhaulReturns x = testing(3);
        Check.is("test, sound", x.test(0, true), RESTOCK);
        dueStock("after a test", x, 0, 1, 2, 0, 0, 0);
        x.setProduct(0, 1, 100000, 0);
        Check.is("test, sound, though SALVAGE is worth more", x.test(0, true), RESTOCK);
        dueStock("after two tests", x, 0, 2, 1, 0, 0, 0);
        Check.is("released", x.released(0), 3000);
        Check.is("score", x.score(3), 35);
    }

    private static void promise22NotSound() {
        BackhaulReturns x = testing(3);
        Check.is("test, not sound", x.test(0, false), REPAIR);
        dueStock("after a test", x, 0, 0, 2, 1, 0, 0);
        x.setProduct(0, 1000, 501, 300);
        Check.is("test, not sound, SALVAGE better", x.test(0, false), SALVAGE);
        dueStock("after two tests", x, 0, 0, 1, 1, 1, 0);
        Check.is("test, sound at last", x.test(0, true), RESTOCK);
        dueStock("after three tests", x, 0, 1, 0, 1, 1, 0);
        Check.is("another product", x.stock(1, REPAIR), 0);
    }

    private static void promise22ByTheValuesNow() {
        BackhaulReturns x = testing(3);
        x.setProduct(0, 1000, 500, 300);
        Check.is("REPAIR and SALVAGE alike", x.test(0, false), REPAIR);
        x.setProduct(0, 1, 0, 100000);
        Check.is("REPAIR below 0", x.test(0, false), SALVAGE);
        // VENDOR would be worth 60000 here, and RESTOCK 46000.
        x.setProduct(0, 1000, 0, 700);
        Check.is("nothing but REPAIR and SALVAGE", x.test(0, false), REPAIR);
    }

    private static void promise22Refusals() {
        for (int product : NO_PRODUCT) {
            Check.badArgument("test of product " + product, () -> testing(1), x -> x.test(product, true));
            Check.badArgument("test of product " + product + ", not sound", () -> testing(1), x -> x.test(product, false));
        }
        Check.badState("test of a product without units", () -> testing(1), x -> x.test(1, true));
        Check.badState("test without units at TEST", () -> tested(), x -> x.test(0, true));
        Check.badState("test without units at TEST, not sound", () -> tested(), x -> x.test(0, false));
    }

    private static BackhaulReturns tested() {
        BackhaulReturns x = testing(1);
        x.test(0, true);
        return x;
    }
}
