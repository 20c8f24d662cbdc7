/** Promises 19 to 22: bestOption, bestWorth, stock, test. */
public final class ReturnedUnitsTest {
    private static final int NEW = BackhaulReturns.NEW;
    private static final int OPENED = BackhaulReturns.OPENED;
    private static final int DAMAGED = BackhaulReturns.DAMAGED;
    private static final int DEFECTIVE = BackhaulReturns.DEFECTIVE;
    private static final int RESTOCK = BackhaulReturns.RESTOCK;
    private static final int TEST = BackhaulReturns.TEST;
    private static final int REPAIR = BackhaulReturns.REPAIR;
    private static final int SALVAGE = BackhaulReturns.SALVAGE;
    private static final int VENDOR = BackhaulReturns.VENDOR;

    public static void main(String[] args) {
        promises19And20New();
        promises19And20Opened();
        promises19And20OpenedJustBetter();
        promises19And20OpenedAlike();
        promises19And20Damaged();
        promises19And20DamagedJustBetter();
        promises19And20DamagedAlike();
        promises19And20Defective();
        promises19And20DefectiveJustBetter();
        promises19And20DefectiveAlike();
        promises19And20WorthsBelowZero();
        promises19And20ExtremeValues();
        promises19And20ProductIs0To9();
        promises19And20Conditions();
        promise21Places();
        promise21ByTheValuesNow();
        promise21ProductIs0To9();
        promise21PlaceIs0To4();
        promise22Sound();
        promise22NotSound();
        promise22ByTheSameRule();
        promise22ProductIs0To9();
        promise22NoSuchUnit();
        promise22ArgumentComesFirst();
        Check.finish("ReturnedUnitsTest");
    }

    /** Asks for the best option with a price, salvage value and repair cost. */
    private static void due(int condition, int price, int salvage, int repair, int option, int worth) {
        BackhaulReturns x = new BackhaulReturns();
        x.setProduct(6, price, salvage, repair);
        String values = " of condition " + condition + " at " + price + ", " + salvage + ", " + repair;
        Check.is("bestOption" + values, x.bestOption(6, condition), option);
        Check.is("bestWorth" + values, x.bestWorth(6, condition), worth);
    }

    /** "NEW: RESTOCK, worth 100 p." */
    private static void promises19And20New() {
        due(NEW, 1000, 200, 300, RESTOCK, 100000);
        due(NEW, 1, 100000, 0, RESTOCK, 100);
        due(NEW, 100000, 100000, 0, RESTOCK, 10000000);
    }

    /** "OPENED: RESTOCK, worth 46 p; TEST, worth 68 p - 5000, plus the fifth part .. ; SALVAGE." */
    private static void promises19And20Opened() {
        due(OPENED, 1000, 200, 300, TEST, 73000);
        // TEST counts the salvage value where that is the better one.
        due(OPENED, 1000, 600, 300, TEST, 75000);
        due(OPENED, 100, 20, 300, RESTOCK, 4600);
        due(OPENED, 1, 100000, 0, SALVAGE, 10000000);
        // REPAIR is no option itself, though it is worth 8000 here, and VENDOR 6000.
        due(OPENED, 100, 10, 0, RESTOCK, 4600);
        due(OPENED, 200, 10, 0, TEST, 11800);
    }

    private static void promises19And20OpenedJustBetter() {
        // RESTOCK 9246 and TEST 9248, RESTOCK 9154 and TEST 9152.
        due(OPENED, 201, 29, 300, TEST, 9248);
        due(OPENED, 199, 31, 300, RESTOCK, 9154);
        // TEST 14404 and SALVAGE 14400, TEST 15596 and SALVAGE 15600.
        due(OPENED, 243, 144, 300, TEST, 14404);
        due(OPENED, 257, 156, 300, SALVAGE, 15600);
        // RESTOCK 4600 and SALVAGE 4500, 4700.
        due(OPENED, 100, 45, 300, RESTOCK, 4600);
        due(OPENED, 100, 47, 300, SALVAGE, 4700);
        // REPAIR 16000 - 12900 counts for TEST, which is then 9220, or 16000 - 13100.
        due(OPENED, 200, 0, 129, TEST, 9220);
        due(OPENED, 200, 0, 131, RESTOCK, 9200);
    }

    /** "of several, the first one in the order RESTOCK, TEST, REPAIR, SALVAGE, VENDOR" */
    private static void promises19And20OpenedAlike() {
        // RESTOCK and TEST both 9200, by the salvage value and by the repair.
        due(OPENED, 200, 30, 300, RESTOCK, 9200);
        due(OPENED, 200, 0, 130, RESTOCK, 9200);
        // TEST and SALVAGE both 15000.
        due(OPENED, 250, 150, 300, TEST, 15000);
        // RESTOCK and SALVAGE both 4600.
        due(OPENED, 100, 46, 300, RESTOCK, 4600);
    }

    /** "DAMAGED: REPAIR, worth 80 p - 100 r; SALVAGE, worth 100 s." */
    private static void promises19And20Damaged() {
        due(DAMAGED, 1000, 200, 300, REPAIR, 50000);
        due(DAMAGED, 1000, 700, 300, SALVAGE, 70000);
        // RESTOCK would be worth 46000 or 100000 here, and VENDOR 60000.
        due(DAMAGED, 1000, 0, 700, REPAIR, 10000);
    }

    private static void promises19And20DamagedJustBetter() {
        // REPAIR 49920 and SALVAGE 49900, REPAIR 50080 and SALVAGE 50100.
        due(DAMAGED, 999, 499, 300, REPAIR, 49920);
        due(DAMAGED, 1001, 501, 300, SALVAGE, 50100);
        due(DAMAGED, 1000, 499, 300, REPAIR, 50000);
        due(DAMAGED, 1000, 501, 300, SALVAGE, 50100);
    }

    private static void promises19And20DamagedAlike() {
        due(DAMAGED, 1000, 500, 300, REPAIR, 50000);
        due(DAMAGED, 1000, 0, 800, REPAIR, 0);
        due(DAMAGED, 5, 4, 0, REPAIR, 400);
    }

    /** "DEFECTIVE: REPAIR and SALVAGE, as above; VENDOR, worth 60 p." */
    private static void promises19And20Defective() {
        due(DEFECTIVE, 1000, 200, 300, VENDOR, 60000);
        due(DEFECTIVE, 1000, 200, 100, REPAIR, 70000);
        due(DEFECTIVE, 1000, 700, 300, SALVAGE, 70000);
    }

    private static void promises19And20DefectiveJustBetter() {
        // REPAIR 60080 and VENDOR 60060, REPAIR 59920 and VENDOR 59940.
        due(DEFECTIVE, 1001, 0, 200, REPAIR, 60080);
        due(DEFECTIVE, 999, 0, 200, VENDOR, 59940);
        // SALVAGE 200 and VENDOR 180, SALVAGE 100 and VENDOR 120.
        due(DEFECTIVE, 3, 2, 300, SALVAGE, 200);
        due(DEFECTIVE, 2, 1, 300, VENDOR, 120);
        // REPAIR and SALVAGE, both above VENDOR.
        due(DEFECTIVE, 1000, 699, 100, REPAIR, 70000);
        due(DEFECTIVE, 1000, 701, 100, SALVAGE, 70100);
    }

    private static void promises19And20DefectiveAlike() {
        // REPAIR and VENDOR, SALVAGE and VENDOR, REPAIR and SALVAGE, all three.
        due(DEFECTIVE, 1000, 200, 200, REPAIR, 60000);
        due(DEFECTIVE, 1000, 600, 300, SALVAGE, 60000);
        due(DEFECTIVE, 1000, 700, 100, REPAIR, 70000);
        due(DEFECTIVE, 1000, 600, 200, REPAIR, 60000);
    }

    /** "Worths can be below 0, and are rounded down to the lesser number then, too." */
    private static void promises19And20WorthsBelowZero() {
        // REPAIR 20, 0 and 20 below 0, against SALVAGE 0.
        due(DAMAGED, 4, 0, 3, REPAIR, 20);
        due(DAMAGED, 5, 0, 4, REPAIR, 0);
        due(DAMAGED, 1, 0, 1, SALVAGE, 0);
        // TEST 4932, 4916 or 36 below 0.
        due(OPENED, 1, 0, 1, RESTOCK, 46);
        due(OPENED, 1, 0, 0, RESTOCK, 46);
        due(OPENED, 73, 0, 100000, RESTOCK, 3358);
        // REPAIR is far below 0, so SALVAGE counts for TEST, with 0: 10504 and 10436.
        due(OPENED, 228, 0, 100000, TEST, 10504);
        due(OPENED, 227, 0, 100000, RESTOCK, 10442);
    }

    private static void promises19And20ExtremeValues() {
        due(OPENED, 100000, 0, 0, TEST, 8395000);
        due(OPENED, 100000, 0, 100000, TEST, 6795000);
        due(OPENED, 100000, 100000, 0, SALVAGE, 10000000);
        due(OPENED, 1, 0, 100000, RESTOCK, 46);
        due(DAMAGED, 1, 0, 100000, SALVAGE, 0);
        due(DAMAGED, 1, 100000, 100000, SALVAGE, 10000000);
        due(DAMAGED, 100000, 0, 0, REPAIR, 8000000);
        due(DEFECTIVE, 100000, 0, 100000, VENDOR, 6000000);
        due(DEFECTIVE, 1, 0, 100000, VENDOR, 60);
        due(DEFECTIVE, 1, 0, 0, REPAIR, 80);
    }

    /** "product: 0 to 9" */
    private static void promises19And20ProductIs0To9() {
        BackhaulReturns x = new BackhaulReturns();
        for (int product = 0; product < 10; product++) {
            x.setProduct(product, 1000 + product, 0, product % 2 == 0 ? 0 : 100000);
        }
        for (int product = 0; product < 10; product++) {
            Check.is("bestWorth of product " + product, x.bestWorth(product, NEW), 100 * (1000 + product));
            Check.is("bestOption of product " + product, x.bestOption(product, DAMAGED), product % 2 == 0 ? REPAIR : SALVAGE);
        }
        for (int product : Edges.NO_PRODUCT) {
            Check.badArgument("bestOption of product " + product, BackhaulReturns::new, y -> y.bestOption(product, NEW));
            Check.badArgument("bestWorth of product " + product, BackhaulReturns::new, y -> y.bestWorth(product, NEW));
        }
    }

    /** "condition: NEW, OPENED, DAMAGED or DEFECTIVE" */
    private static void promises19And20Conditions() {
        int[] options = {RESTOCK, TEST, REPAIR, VENDOR};
        for (int condition = 0; condition < 4; condition++) {
            Check.is("bestOption in condition " + condition, new BackhaulReturns().bestOption(0, condition), options[condition]);
        }
        for (int condition : Edges.NO_CONDITION) {
            Check.badArgument("bestOption in condition " + condition, BackhaulReturns::new, x -> x.bestOption(0, condition));
            Check.badArgument("bestWorth in condition " + condition, BackhaulReturns::new, x -> x.bestWorth(0, condition));
        }
    }

    private static void dueStock(String what, BackhaulReturns x, int product, int... due) {
        for (int place = 0; place < 5; place++) {
            Check.is("stock(" + product + ", " + place + ") " + what, x.stock(product, place), due[place]);
        }
    }

    private static void promise21Places() {
        BackhaulReturns x = Scene.paid(20);
        dueStock("at first", x, 0, 0, 0, 0, 0, 0);
        x.giveBack(0, 0, 2, NEW);
        x.giveBack(0, 0, 1, OPENED);
        x.giveBack(0, 0, 1, DAMAGED);
        x.exchange(0, 0, 1, DEFECTIVE, 1);
        dueStock("after returns and an exchange", x, 0, 2, 1, 1, 0, 1);
        x.setProduct(0, 1, 500, 0);
        x.giveBack(0, 0, 1, DAMAGED);
        dueStock("after one more", x, 0, 2, 1, 1, 1, 1);
        dueStock("of the other product", x, 1, 0, 0, 0, 0, 0);
        x.giveBack(1, 0, 1, NEW);
        dueStock("of the other product then", x, 1, 1, 0, 0, 0, 0);
        dueStock("stays where it is", x, 0, 2, 1, 1, 1, 1);
    }

    /** "with the price, salvage value and repair cost of the product now" */
    private static void promise21ByTheValuesNow() {
        BackhaulReturns x = Scene.paid(4);
        x.setProduct(0, 1000, 900, 300);
        x.giveBack(0, 0, 1, OPENED);
        x.setProduct(0, 100, 0, 300);
        x.exchange(0, 0, 1, OPENED, 0);
        x.setProduct(0, 1000, 0, 100);
        x.giveBack(0, 0, 1, DEFECTIVE);
        dueStock("by the values at each return", x, 0, 1, 0, 1, 1, 0);
        BackhaulReturns alike = Scene.paid(4);
        alike.setProduct(0, 200, 30, 300);
        alike.giveBack(0, 0, 1, OPENED);
        alike.setProduct(0, 250, 150, 300);
        alike.giveBack(0, 0, 1, OPENED);
        alike.setProduct(0, 1000, 600, 200);
        alike.giveBack(0, 0, 1, DEFECTIVE);
        dueStock("by the first of like worths", alike, 0, 1, 1, 1, 0, 0);
    }

    /** "product: 0 to 9" */
    private static void promise21ProductIs0To9() {
        for (int product : new int[] {0, 9}) {
            BackhaulReturns x = new BackhaulReturns();
            x.open(0);
            x.add(0, product, 20);
            x.pay(0);
            x.giveBack(0, 0, 20, NEW);
            Check.is("stock of product " + product, x.stock(product, RESTOCK), 20);
            Check.is("stock of a neighbour", x.stock(product == 0 ? 1 : 8, RESTOCK), 0);
        }
        for (int product : Edges.NO_PRODUCT) {
            Check.badArgument("stock of product " + product, BackhaulReturns::new, x -> x.stock(product, RESTOCK));
        }
    }

    /** "place: RESTOCK, TEST, REPAIR, SALVAGE or VENDOR" */
    private static void promise21PlaceIs0To4() {
        Check.is("stock at the first place", new BackhaulReturns().stock(0, RESTOCK), 0);
        Check.is("stock at the last place", new BackhaulReturns().stock(0, VENDOR), 0);
        for (int place : Edges.NO_PLACE) {
            Check.badArgument("stock at place " + place, BackhaulReturns::new, x -> x.stock(0, place));
        }
    }

    /** Some units of product 0 are at the place TEST. */
    private static BackhaulReturns testing(int units) {
        BackhaulReturns x = Scene.paid(4);
        x.giveBack(0, 0, units, OPENED);
        return x;
    }

    /** "to RESTOCK if it is found to be sound" */
    private static void promise22Sound() {
        BackhaulReturns x = testing(3);
        Check.is("test, sound", x.test(0, true), RESTOCK);
        dueStock("after a test", x, 0, 1, 2, 0, 0, 0);
        x.setProduct(0, 1, 100000, 0);
        Check.is("test, sound, though SALVAGE is worth more", x.test(0, true), RESTOCK);
        dueStock("after two tests", x, 0, 2, 1, 0, 0, 0);
        Check.is("released", x.released(0), 3000);
        Check.is("score", x.score(3), 35);
    }

    /** "otherwise to REPAIR or SALVAGE" */
    private static void promise22NotSound() {
        BackhaulReturns x = testing(3);
        Check.is("test, not sound", x.test(0, false), REPAIR);
        dueStock("after a test", x, 0, 0, 2, 1, 0, 0);
        x.setProduct(0, 1000, 501, 300);
        Check.is("test, not sound, SALVAGE better", x.test(0, false), SALVAGE);
        dueStock("after two tests", x, 0, 0, 1, 1, 1, 0);
        Check.is("test, sound at last", x.test(0, true), RESTOCK);
        dueStock("after three tests", x, 0, 1, 0, 1, 1, 0);
        Check.is("another product", x.stock(1, REPAIR), 0);
    }

    /** "whichever is better by the same rule" */
    private static void promise22ByTheSameRule() {
        int[][] due = {
            // price, salvage value, repair cost, and the place
            {1000, 499, 300, REPAIR}, {1000, 500, 300, REPAIR}, {1000, 501, 300, SALVAGE},
            {999, 499, 300, REPAIR}, {1001, 501, 300, SALVAGE},
            {4, 0, 3, REPAIR}, {5, 0, 4, REPAIR}, {1, 0, 1, SALVAGE}, {1, 0, 100000, SALVAGE},
            // VENDOR would be worth 60000 here, and RESTOCK 46000.
            {1000, 0, 700, REPAIR},
        };
        for (int[] d : due) {
            BackhaulReturns x = testing(1);
            x.setProduct(0, d[0], d[1], d[2]);
            Check.is("test at " + d[0] + ", " + d[1] + ", " + d[2], x.test(0, false), d[3]);
            Check.is("stock after that", x.stock(0, d[3]), 1);
        }
    }

    /** "product: 0 to 9" */
    private static void promise22ProductIs0To9() {
        for (int product : new int[] {0, 9}) {
            BackhaulReturns x = new BackhaulReturns();
            x.open(0);
            x.add(0, product, 1);
            x.pay(0);
            x.giveBack(0, 0, 1, OPENED);
            Check.is("test of product " + product, x.test(product, true), RESTOCK);
        }
        for (int product : Edges.NO_PRODUCT) {
            Check.badArgument("test of product " + product, () -> testing(1), x -> x.test(product, true));
            Check.badArgument("test of product " + product + ", not sound", () -> testing(1), x -> x.test(product, false));
        }
    }

    /** "if there is no such unit" */
    private static void promise22NoSuchUnit() {
        Check.is("test of the last unit", testing(1).test(0, false), REPAIR);
        Check.badState("test of a product without units", () -> testing(1), x -> x.test(1, true));
        Check.badState("test after the last unit", ReturnedUnitsTest::tested, x -> x.test(0, true));
        Check.badState("test after the last unit, not sound", ReturnedUnitsTest::tested, x -> x.test(0, false));
        for (int condition : new int[] {NEW, DAMAGED, DEFECTIVE}) {
            Check.badState("test of a unit at another place", () -> elsewhere(condition), x -> x.test(0, true));
        }
        Check.badState("test of a new object", BackhaulReturns::new, x -> x.test(9, true));
    }

    private static BackhaulReturns tested() {
        BackhaulReturns x = testing(1);
        x.test(0, true);
        return x;
    }

    private static BackhaulReturns elsewhere(int condition) {
        BackhaulReturns x = Scene.paid(4);
        x.giveBack(0, 0, 1, condition);
        return x;
    }

    private static void promise22ArgumentComesFirst() {
        for (int product : Edges.NO_PRODUCT) {
            Check.badArgument("test of product " + product + " without units", BackhaulReturns::new, x -> x.test(product, true));
        }
    }
}
