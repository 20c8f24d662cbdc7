/** Promises 4 to 11: open, add, pay, sales, paid, kept, keptValue, lineValue. */
public final class SalesTest {
    private static final int[] NO_SALE = {-1, 1, 39, 40, Integer.MIN_VALUE, Integer.MAX_VALUE};

    public static void main(String[] args) {
        promise4Numbers();
        promise4Refusals();
        promise5Numbers();
        promise5Price();
        promise5Refusals();
        promise6Discounts();
        promise6Refusals();
        promise7Counts();
        promise8Paid();
        promise9Kept();
        promise10KeptValue();
        promise11Remainders();
        promise11KeptUnitsOnly();
        promise11LargeAmounts();
        promises8To11Refusals();
        Check.finish("SalesTest");
    }

    private static void promise4Numbers() {
        BackhaulReturns x = new BackhaulReturns();
        for (int sale = 0; sale < 40; sale++) {
            Check.is("open number " + sale, x.open(sale % 10), sale);
        }
        Check.is("sales()", x.sales(), 40);
    }

    private static void promise4Refusals() {
        for (int customer : new int[] {-1, 10, Integer.MIN_VALUE, Integer.MAX_VALUE}) {
            Check.badArgument("open(" + customer + ")", BackhaulReturns::new, x -> x.open(customer));
            Check.badArgument("open(" + customer + ") with 40 sales", Scene::full, x -> x.open(customer));
        }
        Check.badState("open(0) with 40 sales", Scene::full, x -> x.open(0));
        Check.badState("open(0) with 40 sales, the last by an exchange", SalesTest::fullByExchange, x -> x.open(0));
    }

    private static BackhaulReturns fullByExchange() {
        BackhaulReturns x = Scene.paid(2);
        for (int sale = 1; sale < 39; sale++) {
            x.open(4);
        }
        x.exchange(0, 0, 1, BackhaulReturns.NEW, 1);
        return x;
    }

    private static void promise5Numbers() {
        BackhaulReturns x = new BackhaulReturns();
        x.open(0);
        x.open(1);
        for (int line = 0; line < 6; line++) {
            Check.is("add, line " + line, x.add(0, line == 5 ? 9 : 0, line == 0 ? 1 : 20), line);
        }
        Check.is("add to another sale", x.add(1, 9, 1), 0);
        Check.is("pay with 101 units", x.pay(0), 85850);
    }

    private static void promise5Price() {
        BackhaulReturns x = new BackhaulReturns();
        x.setProduct(2, 100, 0, 0);
        x.open(0);
        x.add(0, 2, 3);
        x.setProduct(2, 700, 0, 0);
        x.add(0, 2, 1);
        x.setProduct(2, 9000, 0, 0);
        Check.is("pay at the prices when the lines were added", x.pay(0), 1000);
        Check.is("line of the first price", x.lineValue(0, 0), 300);
        Check.is("line of the second price", x.lineValue(0, 1), 700);
    }

    private static void promise5Refusals() {
        for (int sale : NO_SALE) {
            Check.noSuch("add(" + sale + ", 0, 1)", Scene::open, x -> x.add(sale, 0, 1));
            Check.noSuch("add(" + sale + ", 10, 0)", Scene::open, x -> x.add(sale, 10, 0));
        }
        int[][] wrong = {{-1, 1}, {10, 1}, {0, 0}, {0, -1}, {0, 21}, {Integer.MIN_VALUE, 1},
            {Integer.MAX_VALUE, 1}, {0, Integer.MIN_VALUE}, {0, Integer.MAX_VALUE}};
        for (int[] a : wrong) {
            String call = "add(0, " + a[0] + ", " + a[1] + ")";
            Check.badArgument(call, Scene::open, x -> x.add(0, a[0], a[1]));
            Check.badArgument(call + " to a paid sale", () -> Scene.paid(4), x -> x.add(0, a[0], a[1]));
            Check.badArgument(call + " to a full sale", SalesTest::sixLines, x -> x.add(0, a[0], a[1]));
        }
        Check.badState("add to a paid sale", () -> Scene.paid(4), x -> x.add(0, 0, 1));
        Check.badState("add of a seventh line", SalesTest::sixLines, x -> x.add(0, 0, 1));
        Check.badState("add to a sale by an exchange", SalesTest::exchanged, x -> x.add(1, 0, 1));
    }

    private static BackhaulReturns sixLines() {
        return Scene.lines(1, 2, 3, 4, 5, 6);
    }

    private static BackhaulReturns exchanged() {
        BackhaulReturns x = Scene.paid(2);
        x.exchange(0, 0, 1, BackhaulReturns.NEW, 1);
        return x;
    }

    private static void promise6Discounts() {
        int[][] due = {{1, 1}, {4999, 4999}, {5000, 4750}, {5001, 4751}, {5019, 4769}, {5020, 4769},
            {9999, 9500}, {10000, 9000}, {10009, 9009}, {19999, 18000}, {20000, 17000}, {20001, 17001},
            {100000, 85000}};
        for (int[] d : due) {
            BackhaulReturns x = Scene.lines(d[0]);
            Check.is("pay with a goods value of " + d[0], x.pay(0), d[1]);
        }
        BackhaulReturns several = Scene.lines(2500, 2499, 1);
        Check.is("pay with a goods value of 5000 from three lines", several.pay(0), 4750);
    }

    private static void promise6Refusals() {
        for (int sale : NO_SALE) {
            Check.noSuch("pay(" + sale + ")", Scene::open, x -> x.pay(sale));
        }
        Check.badState("pay of a sale without a line", () -> Scene.lines(), x -> x.pay(0));
        Check.badState("pay of a paid sale", () -> Scene.paid(4), x -> x.pay(0));
        Check.badState("pay of a sale by an exchange", SalesTest::exchanged, x -> x.pay(1));
        Check.badState("pay of a paid sale, without kept units", SalesTest::allBack, x -> x.pay(0));
    }

    private static BackhaulReturns allBack() {
        BackhaulReturns x = Scene.paid(2);
        x.giveBack(0, 0, 2, BackhaulReturns.NEW);
        return x;
    }

    private static void promise7Counts() {
        BackhaulReturns x = new BackhaulReturns();
        x.open(0);
        Check.is("sales() after an open", x.sales(), 1);
        x.add(0, 0, 2);
        x.pay(0);
        Check.is("sales() after a pay", x.sales(), 1);
        x.exchange(0, 0, 1, BackhaulReturns.NEW, 0);
        Check.is("sales() after an exchange", x.sales(), 2);
        x.giveBack(0, 0, 1, BackhaulReturns.NEW);
        Check.is("sales() after a return", x.sales(), 2);
    }

    private static void promise8Paid() {
        BackhaulReturns x = Scene.open();
        Check.is("paid of an open sale", x.paid(0), 0);
        x.pay(0);
        Check.is("paid of a paid sale", x.paid(0), 4000);
        x.giveBack(0, 0, 3, BackhaulReturns.NEW);
        Check.is("paid after a return", x.paid(0), 4000);
        x.exchange(0, 0, 1, BackhaulReturns.NEW, 1);
        Check.is("paid after an exchange", x.paid(0), 4000);
        Check.is("paid of the sale by an exchange", x.paid(1), 1000);
    }

    private static void promise9Kept() {
        BackhaulReturns x = Scene.open();
        x.add(0, 1, 7);
        Check.is("kept of an open sale", x.kept(0, 0), 0);
        x.pay(0);
        Check.is("kept of line 0", x.kept(0, 0), 4);
        Check.is("kept of line 1", x.kept(0, 1), 7);
        x.giveBack(0, 1, 2, BackhaulReturns.NEW);
        x.exchange(0, 0, 3, BackhaulReturns.NEW, 1);
        Check.is("kept of line 0 after an exchange", x.kept(0, 0), 1);
        Check.is("kept of line 1 after a return", x.kept(0, 1), 5);
        Check.is("kept of the sale by an exchange", x.kept(1, 0), 3);
        x.giveBack(0, 0, 1, BackhaulReturns.NEW);
        Check.is("kept of line 0 at the end", x.kept(0, 0), 0);
    }

    private static void promise10KeptValue() {
        BackhaulReturns x = new BackhaulReturns();
        x.open(0);
        x.add(0, 0, 8);
        x.add(0, 1, 2);
        Check.is("keptValue of an open sale", x.keptValue(0), 0);
        x.pay(0);
        Check.is("keptValue of a paid sale", x.keptValue(0), 9000);
        x.giveBack(0, 1, 1, BackhaulReturns.NEW);
        Check.is("keptValue at 9000", x.keptValue(0), 8550);
        x.exchange(0, 0, 5, BackhaulReturns.NEW, 1);
        Check.is("keptValue at 4000", x.keptValue(0), 4000);
        Check.is("keptValue of the sale by an exchange", x.keptValue(1), 4750);
        BackhaulReturns none = allBack();
        Check.is("keptValue without kept units", none.keptValue(0), 0);
        none.setProduct(0, 5, 5, 5);
        Check.is("keptValue does not follow the price now", Scene.paid(4).keptValue(0), 4000);
    }

    private static void promise11Remainders() {
        BackhaulReturns like = Scene.lines(3333, 3333, 3333);
        Check.is("lineValue of an open sale", like.lineValue(0, 0), 0);
        like.pay(0);
        // 9500 in three: 3166 each and 2 left, with like remainders.
        dueShares("like remainders", like, 3167, 3167, 3166);
        BackhaulReturns unlike = Scene.lines(1000, 1500, 2501);
        unlike.pay(0);
        // remainders 50, 75 and 4876, 1 left.
        dueShares("the greatest remainder last", unlike, 950, 1425, 2376);
        BackhaulReturns even = Scene.lines(1000, 1500);
        even.pay(0);
        dueShares("without a discount", even, 1000, 1500);
        BackhaulReturns middle = Scene.lines(1000, 2501, 1500);
        middle.pay(0);
        dueShares("the greatest remainder in the middle", middle, 950, 2376, 1425);
    }

    private static void dueShares(String what, BackhaulReturns x, int... due) {
        int sum = 0;
        for (int line = 0; line < due.length; line++) {
            Check.is("lineValue(0, " + line + "), " + what, x.lineValue(0, line), due[line]);
            sum += due[line];
        }
        Check.is("keptValue(0), " + what, x.keptValue(0), sum);
    }

    private static void promise11KeptUnitsOnly() {
        BackhaulReturns x = Scene.lines(1, 3333, 3333, 3333);
        x.pay(0);
        x.giveBack(0, 0, 1, BackhaulReturns.NEW);
        dueShares("a line without kept units", x, 0, 3167, 3167, 3166);
        x.giveBack(0, 2, 1, BackhaulReturns.NEW);
        // 6666 less 333.
        dueShares("two lines without kept units", x, 0, 3167, 0, 3166);
        x.giveBack(0, 1, 1, BackhaulReturns.NEW);
        x.giveBack(0, 3, 1, BackhaulReturns.NEW);
        dueShares("no kept units at all", x, 0, 0, 0, 0);
        BackhaulReturns cent = Scene.lines(5, 1, 7);
        cent.pay(0);
        cent.giveBack(0, 0, 1, BackhaulReturns.NEW);
        cent.giveBack(0, 2, 1, BackhaulReturns.NEW);
        dueShares("one cent", cent, 0, 1, 0);
        BackhaulReturns exchanged = exchanged();
        Check.is("lineValue of a sale by an exchange", exchanged.lineValue(1, 0), 1000);
    }

    private static void promise11LargeAmounts() {
        BackhaulReturns x = new BackhaulReturns();
        x.setProduct(0, 100000, 0, 0);
        x.setProduct(1, 99999, 0, 0);
        x.open(0);
        for (int line = 0; line < 6; line++) {
            x.add(0, line == 5 ? 1 : 0, 20);
        }
        // 11999980 less 15 percent; each share is 85 percent of the line's goods value.
        Check.is("pay of a great amount", x.pay(0), 10199983);
        dueShares("great amounts", x, 1700000, 1700000, 1700000, 1700000, 1700000, 1699983);
    }

    private static void promises8To11Refusals() {
        for (int sale : NO_SALE) {
            Check.noSuch("paid(" + sale + ")", Scene::open, x -> x.paid(sale));
            Check.noSuch("kept(" + sale + ", 0)", Scene::open, x -> x.kept(sale, 0));
            Check.noSuch("keptValue(" + sale + ")", Scene::open, x -> x.keptValue(sale));
            Check.noSuch("lineValue(" + sale + ", 0)", Scene::open, x -> x.lineValue(sale, 0));
        }
        for (int line : new int[] {-1, 1, 5, 6, Integer.MIN_VALUE, Integer.MAX_VALUE}) {
            Check.noSuch("kept(0, " + line + ")", Scene::open, x -> x.kept(0, line));
            Check.noSuch("lineValue(0, " + line + ")", Scene::open, x -> x.lineValue(0, line));
            Check.noSuch("kept(0, " + line + ") of a paid sale", () -> Scene.paid(4), x -> x.kept(0, line));
            Check.noSuch("lineValue(0, " + line + ") of a paid sale", () -> Scene.paid(4), x -> x.lineValue(0, line));
        }
    }
}
