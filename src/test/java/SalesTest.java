/** Promises 4 to 7: open, add, pay, sales. */
public final class SalesTest {
    private static final int NEW = BackhaulReturns.NEW;

    public static void main(String[] args) {
        promise4ReturnsTheNumber();
        promise4CustomerIs0To9();
        promise4AtMost40Sales();
        promise4ExchangesAreIncluded();
        promise4ArgumentComesFirst();
        promise5ReturnsTheNumberOfTheLine();
        promise5PriceWhenTheLineWasAdded();
        promise5NoSuchSale();
        promise5ProductIs0To9();
        promise5QuantityIs1To20();
        promise5PaidSale();
        promise5AtMost6Lines();
        promise5FirstListedIsThrown();
        promise6DiscountSteps();
        promise6DiscountIsRoundedDown();
        promise6AllLinesTogether();
        promise6NoSuchSale();
        promise6PaidSale();
        promise6NoLine();
        promise7Counts();
        promise7From0To40();
        Check.finish("SalesTest");
    }

    /** "Returns its number." and "Sales are numbered from 0" */
    private static void promise4ReturnsTheNumber() {
        BackhaulReturns x = new BackhaulReturns();
        Check.is("first open", x.open(7), 0);
        Check.is("second open, same customer", x.open(7), 1);
        Check.is("third open, another customer", x.open(2), 2);
    }

    /** "customer: 0 to 9" */
    private static void promise4CustomerIs0To9() {
        for (int customer : new int[] {0, 9}) {
            BackhaulReturns x = Scene.paid(customer, 1000, 1);
            x.giveBack(0, 0, 1, NEW);
            Check.is("score of customer " + customer, x.score(customer), 15);
            Check.is("score of a neighbour", x.score(customer == 0 ? 1 : 8), 0);
        }
        for (int customer : Edges.NO_CUSTOMER) {
            Check.badArgument("open(" + customer + ")", BackhaulReturns::new, x -> x.open(customer));
        }
    }

    /** "there are at most 40" */
    private static void promise4AtMost40Sales() {
        BackhaulReturns x = new BackhaulReturns();
        for (int sale = 0; sale < 40; sale++) {
            Check.is("open number " + sale, x.open(sale % 10), sale);
        }
        Check.is("sales()", x.sales(), 40);
        for (int customer = 0; customer < 10; customer++) {
            int c = customer;
            Check.badState("open(" + c + ") with 40 sales", Scene::full, y -> y.open(c));
        }
    }

    /** "those made by exchanges included" */
    private static void promise4ExchangesAreIncluded() {
        BackhaulReturns x = Scene.crowded(38);
        x.exchange(0, 0, 1, NEW, 1);
        Check.is("the 40th sale, after one by an exchange", x.open(0), 39);
        Check.badState("open(0) with 40 sales, the last by an exchange", SalesTest::fullByExchange, y -> y.open(0));
    }

    private static BackhaulReturns fullByExchange() {
        BackhaulReturns x = Scene.crowded(39);
        x.exchange(0, 0, 1, NEW, 1);
        return x;
    }

    private static void promise4ArgumentComesFirst() {
        for (int customer : Edges.NO_CUSTOMER) {
            Check.badArgument("open(" + customer + ") with 40 sales", Scene::full, x -> x.open(customer));
        }
    }

    /** "Returns the number of the line." and "It has at most 6 lines, numbered from 0" */
    private static void promise5ReturnsTheNumberOfTheLine() {
        BackhaulReturns x = new BackhaulReturns();
        x.open(0);
        x.open(1);
        for (int line = 0; line < 6; line++) {
            Check.is("add, line " + line, x.add(0, line, 2), line);
        }
        Check.is("add to another sale", x.add(1, 9, 1), 0);
    }

    /** "the price of the product when the line was added" */
    private static void promise5PriceWhenTheLineWasAdded() {
        BackhaulReturns x = new BackhaulReturns();
        x.setProduct(2, 100, 0, 0);
        x.open(0);
        x.add(0, 2, 3);
        x.setProduct(2, 700, 0, 0);
        x.add(0, 2, 1);
        x.setProduct(2, 9000, 0, 0);
        Check.is("pay at the prices when the lines were added", x.pay(0), 1000);
        Check.is("line of the first price", x.lineValue(0, 0), 300);
        Check.is("line of the second price", x.lineValue(0, 1), 700);
    }

    /** "if there is no such sale" */
    private static void promise5NoSuchSale() {
        for (int sale : Edges.outside(0, 0)) {
            Check.noSuch("add(" + sale + ", 0, 1)", Scene::open, x -> x.add(sale, 0, 1));
        }
        for (int sale : Edges.outside(0, 39)) {
            Check.noSuch("add(" + sale + ", 0, 1) with 40 sales", Scene::full, x -> x.add(sale, 0, 1));
        }
        Check.noSuch("add without a sale", BackhaulReturns::new, x -> x.add(0, 0, 1));
        Check.is("add to the last of 40 sales", Scene.full().add(39, 0, 1), 0);
    }

    /** "product: 0 to 9" */
    private static void promise5ProductIs0To9() {
        for (int product : new int[] {0, 9}) {
            BackhaulReturns x = new BackhaulReturns();
            x.setProduct(product, 77, 0, 0);
            x.open(0);
            Check.is("add of product " + product, x.add(0, product, 1), 0);
            Check.is("pay of product " + product, x.pay(0), 77);
        }
        for (int product : Edges.NO_PRODUCT) {
            Check.badArgument("add of product " + product, Scene::open, x -> x.add(0, product, 1));
        }
    }

    /** "quantity: 1 to 20" */
    private static void promise5QuantityIs1To20() {
        for (int quantity : new int[] {1, 20}) {
            BackhaulReturns x = new BackhaulReturns();
            x.open(0);
            Check.is("add of " + quantity, x.add(0, 0, quantity), 0);
            x.pay(0);
            Check.is("kept of " + quantity, x.kept(0, 0), quantity);
        }
        for (int quantity : Edges.outside(1, 20)) {
            Check.badArgument("add of " + quantity, Scene::open, x -> x.add(0, 0, quantity));
        }
    }

    /** "if the sale is paid" */
    private static void promise5PaidSale() {
        Check.badState("add to a paid sale", () -> Scene.paid(4), x -> x.add(0, 0, 1));
        Check.badState("add to a paid sale, all units back", Scene::allBack, x -> x.add(0, 0, 1));
        Check.badState("add to a sale by an exchange", Scene::exchanged, x -> x.add(1, 0, 1));
    }

    /** "or has 6 lines" */
    private static void promise5AtMost6Lines() {
        Check.is("the sixth line", Scene.lines(1, 2, 3, 4, 5).add(0, 9, 1), 5);
        Check.badState("the seventh line", SalesTest::sixLines, x -> x.add(0, 0, 1));
        BackhaulReturns x = sixLines();
        x.open(0);
        Check.is("a line of another sale", x.add(1, 0, 1), 0);
        Check.is("pay of six lines", x.pay(0), 21);
        Check.is("kept of the last line", x.kept(0, 5), 1);
    }

    private static BackhaulReturns sixLines() {
        return Scene.lines(1, 2, 3, 4, 5, 6);
    }

    /** "if several apply, the one that it lists first is thrown" */
    private static void promise5FirstListedIsThrown() {
        for (int sale : Edges.outside(0, 0)) {
            Check.noSuch("add(" + sale + ", 10, 0)", Scene::open, x -> x.add(sale, 10, 0));
        }
        int[][] wrong = {{-1, 1}, {10, 1}, {0, 0}, {0, 21}, {10, 21}};
        for (int[] a : wrong) {
            String call = "add(0, " + a[0] + ", " + a[1] + ")";
            Check.badArgument(call + " to a paid sale", () -> Scene.paid(4), x -> x.add(0, a[0], a[1]));
            Check.badArgument(call + " to a full sale", SalesTest::sixLines, x -> x.add(0, a[0], a[1]));
        }
    }

    /** "0 percent of a goods value below 5000, 5 percent of one below 10000, 10 percent of one below 20000, and 15 percent otherwise" */
    private static void promise6DiscountSteps() {
        int[][] due = {{1, 1}, {4999, 4999}, {5000, 4750}, {9999, 9500}, {10000, 9000}, {19999, 18000},
            {20000, 17000}, {100000, 85000}};
        for (int[] d : due) {
            Check.is("pay with a goods value of " + d[0], Scene.lines(d[0]).pay(0), d[1]);
        }
    }

    /** "the discount is rounded down" */
    private static void promise6DiscountIsRoundedDown() {
        int[][] due = {{5001, 4751}, {5019, 4769}, {5020, 4769}, {5021, 4770}, {10001, 9001}, {10009, 9009},
            {10010, 9009}, {20001, 17001}, {20006, 17006}, {20007, 17006}, {20019, 17017}, {20020, 17017}};
        for (int[] d : due) {
            Check.is("pay with a goods value of " + d[0], Scene.lines(d[0]).pay(0), d[1]);
        }
    }

    private static void promise6AllLinesTogether() {
        Check.is("5000 from three lines", Scene.lines(2500, 2499, 1).pay(0), 4750);
        Check.is("4999 from three lines", Scene.lines(2500, 2498, 1).pay(0), 4999);
        Check.is("20000 from one line", Scene.paid(20).paid(0), 17000);
        BackhaulReturns x = new BackhaulReturns();
        x.open(0);
        for (int line = 0; line < 6; line++) {
            x.add(0, line == 5 ? 9 : 0, line == 0 ? 1 : 20);
        }
        Check.is("101 units in six lines", x.pay(0), 85850);
        Check.is("the greatest sale", Scene.greatest().paid(0), 10200000);
    }

    /** "if there is no such sale" */
    private static void promise6NoSuchSale() {
        for (int sale : Edges.outside(0, 0)) {
            Check.noSuch("pay(" + sale + ")", Scene::open, x -> x.pay(sale));
        }
        for (int sale : Edges.outside(0, 39)) {
            Check.noSuch("pay(" + sale + ") with 40 sales", Scene::full, x -> x.pay(sale));
        }
        Check.noSuch("pay without a sale", BackhaulReturns::new, x -> x.pay(0));
        BackhaulReturns last = Scene.full();
        last.add(39, 0, 1);
        Check.is("pay of the last of 40 sales", last.pay(39), 1000);
    }

    /** "if it is paid" */
    private static void promise6PaidSale() {
        Check.badState("pay of a paid sale", () -> Scene.paid(4), x -> x.pay(0));
        Check.badState("pay of a sale by an exchange", Scene::exchanged, x -> x.pay(1));
        Check.badState("pay of a paid sale, all units back", Scene::allBack, x -> x.pay(0));
    }

    /** "or has no line" */
    private static void promise6NoLine() {
        Check.badState("pay of a sale without a line", () -> Scene.lines(), x -> x.pay(0));
        BackhaulReturns x = Scene.lines();
        Check.holds("pay without a line throws", Check.thrownBy(() -> x.pay(0)) == IllegalStateException.class);
        x.add(0, 0, 1);
        Check.is("pay when there is one line", x.pay(0), 1000);
    }

    /** "Returns the number of sales." */
    private static void promise7Counts() {
        BackhaulReturns x = new BackhaulReturns();
        x.open(0);
        Check.is("sales() after an open", x.sales(), 1);
        x.add(0, 0, 2);
        x.pay(0);
        Check.is("sales() after a pay", x.sales(), 1);
        x.exchange(0, 0, 1, NEW, 0);
        Check.is("sales() after an exchange", x.sales(), 2);
        x.giveBack(0, 0, 1, NEW);
        Check.is("sales() after a return", x.sales(), 2);
    }

    private static void promise7From0To40() {
        Check.is("sales() at first", new BackhaulReturns().sales(), 0);
        BackhaulReturns x = Scene.full();
        Check.is("sales() when full", x.sales(), 40);
        Check.holds("open when full throws", Check.thrownBy(() -> x.open(0)) == IllegalStateException.class);
        Check.is("sales() after a refused open", x.sales(), 40);
        Check.is("sales() when the last was made by an exchange", fullByExchange().sales(), 40);
    }
}
