/** Promises 8 to 11: paid, kept, keptValue, lineValue. */
public final class SaleValuesTest {
    private static final int NEW = BackhaulReturns.NEW;

    public static void main(String[] args) {
        promise8WhatHasBeenPaid();
        promise8OpenSale();
        promise8NoSuchSale();
        promise9HowManyAreKept();
        promise9OpenSale();
        promise9NoSuchSale();
        promise9NoSuchLine();
        promise10NetValueOfKeptUnits();
        promise10StepsBack();
        promise10NothingKept();
        promise10NoSuchSale();
        promise11GreatestRemainders();
        promise11LikeRemainders();
        promise11WithoutRemainders();
        promise11LinesWithoutKeptUnits();
        promise11WithoutKeptUnits();
        promise11LargeAmounts();
        promise11NoSuchSale();
        promise11NoSuchLine();
        Check.finish("SaleValuesTest");
    }

    private static void promise8WhatHasBeenPaid() {
        BackhaulReturns x = Scene.paid(4);
        Check.is("paid of a paid sale", x.paid(0), 4000);
        x.giveBack(0, 0, 3, NEW);
        Check.is("paid after a return", x.paid(0), 4000);
        x.exchange(0, 0, 1, NEW, 1);
        Check.is("paid after an exchange of the last unit", x.paid(0), 4000);
        Check.is("paid of the sale by an exchange", x.paid(1), 1000);
    }

    /** "0 if it is open" */
    private static void promise8OpenSale() {
        Check.is("paid of a sale without a line", Scene.lines().paid(0), 0);
        Check.is("paid of an open sale", Scene.open().paid(0), 0);
    }

    /** "if there is no such sale" */
    private static void promise8NoSuchSale() {
        for (int sale : Edges.outside(0, 0)) {
            Check.noSuch("paid(" + sale + ")", () -> Scene.paid(4), x -> x.paid(sale));
        }
        for (int sale : Edges.outside(0, 39)) {
            Check.noSuch("paid(" + sale + ") with 40 sales", Scene::full, x -> x.paid(sale));
        }
        Check.noSuch("paid without a sale", BackhaulReturns::new, x -> x.paid(0));
        Check.is("paid of the last of 40 sales", Scene.fullPaidLast().paid(39), 1000);
    }

    private static void promise9HowManyAreKept() {
        BackhaulReturns x = Scene.open();
        x.add(0, 1, 7);
        x.pay(0);
        Check.is("kept of line 0", x.kept(0, 0), 4);
        Check.is("kept of line 1", x.kept(0, 1), 7);
        x.giveBack(0, 1, 2, NEW);
        x.exchange(0, 0, 3, NEW, 1);
        Check.is("kept of line 0 after an exchange", x.kept(0, 0), 1);
        Check.is("kept of line 1 after a return", x.kept(0, 1), 5);
        Check.is("kept of the sale by an exchange", x.kept(1, 0), 3);
        x.giveBack(0, 0, 1, NEW);
        Check.is("kept of line 0 at the end", x.kept(0, 0), 0);
    }

    /** "0 if the sale is open" */
    private static void promise9OpenSale() {
        BackhaulReturns x = Scene.lines(1, 2, 3, 4, 5, 6);
        for (int line = 0; line < 6; line++) {
            Check.is("kept of an open sale, line " + line, x.kept(0, line), 0);
        }
    }

    /** "if there is no such sale" */
    private static void promise9NoSuchSale() {
        for (int sale : Edges.outside(0, 0)) {
            Check.noSuch("kept(" + sale + ", 0)", () -> Scene.paid(4), x -> x.kept(sale, 0));
        }
        for (int sale : Edges.outside(0, 39)) {
            Check.noSuch("kept(" + sale + ", 0) with 40 sales", Scene::full, x -> x.kept(sale, 0));
        }
        Check.noSuch("kept without a sale", BackhaulReturns::new, x -> x.kept(0, 0));
        Check.is("kept of the last of 40 sales", Scene.fullPaidLast().kept(39, 0), 1);
    }

    /** "or line" */
    private static void promise9NoSuchLine() {
        for (int line : Edges.outside(0, 0)) {
            Check.noSuch("kept(0, " + line + ") of an open sale", Scene::open, x -> x.kept(0, line));
            Check.noSuch("kept(0, " + line + ") of a paid sale", () -> Scene.paid(4), x -> x.kept(0, line));
            Check.noSuch("kept(1, " + line + ") of a sale by an exchange", Scene::exchanged, x -> x.kept(1, line));
        }
        for (int line : Edges.outside(0, 5)) {
            Check.noSuch("kept(0, " + line + ") of six lines", Scene::sixPaid, x -> x.kept(0, line));
        }
        Check.noSuch("kept of a sale without a line", () -> Scene.lines(), x -> x.kept(0, 0));
        Check.is("kept of the sixth line", Scene.sixPaid().kept(0, 5), 6);
    }

    private static void promise10NetValueOfKeptUnits() {
        BackhaulReturns x = Scene.open();
        x.add(0, 1, 6);
        x.pay(0);
        Check.is("keptValue of a paid sale", x.keptValue(0), 9000);
        x.giveBack(0, 1, 1, NEW);
        Check.is("keptValue at 9000", x.keptValue(0), 8550);
        x.exchange(0, 1, 5, NEW, 1);
        Check.is("keptValue at 4000", x.keptValue(0), 4000);
        Check.is("keptValue of the sale by an exchange", x.keptValue(1), 4750);
        x.setProduct(0, 5, 5, 5);
        Check.is("keptValue does not follow the price now", x.keptValue(0), 4000);
    }

    /** The discount steps of what is kept, when a cent's worth comes back. */
    private static void promise10StepsBack() {
        int[][] due = {{4999, 4750, 4999}, {5000, 4751, 4750}, {9999, 9000, 9500}, {10000, 9001, 9000},
            {19999, 17000, 18000}, {20000, 17001, 17000}};
        for (int[] d : due) {
            BackhaulReturns x = Scene.lines(d[0], 1);
            x.pay(0);
            Check.is("keptValue at " + (d[0] + 1), x.keptValue(0), d[1]);
            x.giveBack(0, 1, 1, NEW);
            Check.is("keptValue at " + d[0], x.keptValue(0), d[2]);
        }
    }

    private static void promise10NothingKept() {
        Check.is("keptValue of a sale without a line", Scene.lines().keptValue(0), 0);
        Check.is("keptValue of an open sale", Scene.open().keptValue(0), 0);
        Check.is("keptValue without kept units", Scene.allBack().keptValue(0), 0);
    }

    /** "if there is no such sale" */
    private static void promise10NoSuchSale() {
        for (int sale : Edges.outside(0, 0)) {
            Check.noSuch("keptValue(" + sale + ")", () -> Scene.paid(4), x -> x.keptValue(sale));
        }
        for (int sale : Edges.outside(0, 39)) {
            Check.noSuch("keptValue(" + sale + ") with 40 sales", Scene::full, x -> x.keptValue(sale));
        }
        Check.noSuch("keptValue without a sale", BackhaulReturns::new, x -> x.keptValue(0));
        Check.is("keptValue of the last of 40 sales", Scene.fullPaidLast().keptValue(39), 1000);
    }

    /** "to the lines with the greatest remainders of these divisions" */
    private static void promise11GreatestRemainders() {
        // 4751 in all; the remainders are 50, 75 and 4876, and 1 is left.
        dueShares("the greatest remainder last", paidLines(1000, 1500, 2501), 950, 1425, 2376);
        dueShares("the greatest remainder in the middle", paidLines(1000, 2501, 1500), 950, 2376, 1425);
        dueShares("the greatest remainder first", paidLines(2501, 1000, 1500), 2376, 950, 1425);
    }

    /** "of several with like remainders to the line with the lowest number" */
    private static void promise11LikeRemainders() {
        // 9500 in three: 3166 each and 2 left.
        dueShares("three like remainders, 2 left", paidLines(3333, 3333, 3333), 3167, 3167, 3166);
        // 6666 less 333 in two: 1 left.
        dueShares("two like remainders, 1 left", paidLines(3333, 3333), 3167, 3166);
        // 6006 less 300 in six: 951 each, nothing left.
        dueShares("six like lines", paidLines(1001, 1001, 1001, 1001, 1001, 1001), 951, 951, 951, 951, 951, 951);
        // 5010 less 250 in six: 793 each and 2 left.
        dueShares("six like remainders, 2 left", paidLines(835, 835, 835, 835, 835, 835), 794, 794, 793, 793, 793, 793);
        // 4769 in all; the remainders are 3263, 3263 and 3514, and 2 are left.
        dueShares("two like remainders and a greater one", paidLines(2007, 2007, 1006), 1907, 1906, 956);
        // 4751 in all; the remainders are 4751, 125 and 125, and 1 is left.
        dueShares("two like remainders and nothing left", paidLines(1, 2500, 2500), 1, 2375, 2375);
    }

    private static void promise11WithoutRemainders() {
        dueShares("without a discount", paidLines(1000, 1500), 1000, 1500);
        dueShares("one line", paidLines(5001), 4751);
        dueShares("a discount that leaves nothing", paidLines(2000, 3000), 1900, 2850);
    }

    private static void promise11LinesWithoutKeptUnits() {
        BackhaulReturns x = paidLines(1, 3333, 3333, 3333);
        x.giveBack(0, 0, 1, NEW);
        dueShares("a line without kept units", x, 0, 3167, 3167, 3166);
        x.giveBack(0, 2, 1, NEW);
        dueShares("two lines without kept units", x, 0, 3167, 0, 3166);
        BackhaulReturns cent = paidLines(5, 1, 7);
        cent.giveBack(0, 0, 1, NEW);
        cent.giveBack(0, 2, 1, NEW);
        dueShares("one cent", cent, 0, 1, 0);
        Check.is("lineValue of a sale by an exchange", Scene.exchanged().lineValue(1, 0), 1000);
    }

    /** "Without kept units each line gets 0." */
    private static void promise11WithoutKeptUnits() {
        dueShares("an open sale", Scene.lines(3333, 3333, 3333), 0, 0, 0);
        BackhaulReturns x = paidLines(3333, 3333, 3333);
        for (int line = 0; line < 3; line++) {
            x.giveBack(0, line, 1, NEW);
        }
        dueShares("all units back", x, 0, 0, 0);
        dueShares("all units of one line back", Scene.allBack(), 0);
    }

    private static void promise11LargeAmounts() {
        BackhaulReturns x = new BackhaulReturns();
        x.setProduct(0, 100000, 0, 0);
        x.setProduct(1, 99999, 0, 0);
        x.open(0);
        for (int line = 0; line < 6; line++) {
            x.add(0, line == 5 ? 1 : 0, 20);
        }
        // 11999980 less 15 percent; each share is 85 percent of the line's goods value.
        Check.is("pay of a great amount", x.pay(0), 10199983);
        dueShares("great amounts", x, 1700000, 1700000, 1700000, 1700000, 1700000, 1699983);
        dueShares("the greatest amounts", Scene.greatest(), 1700000, 1700000, 1700000, 1700000, 1700000, 1700000);
    }

    private static BackhaulReturns paidLines(int... prices) {
        BackhaulReturns x = Scene.lines(prices);
        x.pay(0);
        return x;
    }

    private static void dueShares(String what, BackhaulReturns x, int... due) {
        int sum = 0;
        for (int line = 0; line < due.length; line++) {
            Check.is("lineValue(0, " + line + "), " + what, x.lineValue(0, line), due[line]);
            sum += due[line];
        }
        Check.is("keptValue(0), " + what, x.keptValue(0), sum);
    }

    /** "if there is no such sale" */
    private static void promise11NoSuchSale() {
        for (int sale : Edges.outside(0, 0)) {
            Check.noSuch("lineValue(" + sale + ", 0)", () -> Scene.paid(4), x -> x.lineValue(sale, 0));
        }
        for (int sale : Edges.outside(0, 39)) {
            Check.noSuch("lineValue(" + sale + ", 0) with 40 sales", Scene::full, x -> x.lineValue(sale, 0));
        }
        Check.noSuch("lineValue without a sale", BackhaulReturns::new, x -> x.lineValue(0, 0));
        Check.is("lineValue of the last of 40 sales", Scene.fullPaidLast().lineValue(39, 0), 1000);
    }

    /** "or line" */
    private static void promise11NoSuchLine() {
        for (int line : Edges.outside(0, 0)) {
            Check.noSuch("lineValue(0, " + line + ") of an open sale", Scene::open, x -> x.lineValue(0, line));
            Check.noSuch("lineValue(0, " + line + ") of a paid sale", () -> Scene.paid(4), x -> x.lineValue(0, line));
            Check.noSuch("lineValue(1, " + line + ") of a sale by an exchange", Scene::exchanged, x -> x.lineValue(1, line));
        }
        for (int line : Edges.outside(0, 5)) {
            Check.noSuch("lineValue(0, " + line + ") of six lines", Scene::sixPaid, x -> x.lineValue(0, line));
        }
        Check.noSuch("lineValue of a sale without a line", () -> Scene.lines(), x -> x.lineValue(0, 0));
        Check.is("lineValue of the sixth line", Scene.sixPaid().lineValue(0, 5), 36);
    }
}
