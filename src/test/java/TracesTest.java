/** Promises 15 to 18: released, fees, firstSale, exchanges. */
public final class TracesTest {
    private static final int NEW = BackhaulReturns.NEW;
    private static final int OPENED = BackhaulReturns.OPENED;
    private static final int DAMAGED = BackhaulReturns.DAMAGED;
    private static final int DEFECTIVE = BackhaulReturns.DEFECTIVE;

    public static void main(String[] args) {
        promise15SumsUp();
        promise15NothingYet();
        promise15NoSuchSale();
        promise16SumsUp();
        promise16NothingYet();
        promises17And18Trace();
        promise17OpenedSale();
        promise18LongestChain();
        promises17And18NoSuchSale();
        Check.finish("TracesTest");
    }

    /** "Returns all that has been released of a sale." */
    private static void promise15SumsUp() {
        BackhaulReturns x = Scene.aged(4, 31);
        x.giveBack(0, 0, 1, NEW);
        Check.is("released, the fee included", x.released(0), 1000);
        x.exchange(0, 0, 2, NEW, 1);
        Check.is("released by an exchange too", x.released(0), 3000);
        Check.is("released of the new sale", x.released(1), 0);
        x.giveBack(1, 0, 1, NEW);
        Check.is("released of the new sale then", x.released(1), 1000);
        Check.is("released of the old sale then", x.released(0), 3000);
        x.giveBack(0, 0, 1, NEW);
        Check.is("released of the old sale at last", x.released(0), 4000);
    }

    private static void promise15NothingYet() {
        Check.is("released of an open sale", Scene.open().released(0), 0);
        Check.is("released of a paid sale", Scene.paid(4).released(0), 0);
        BackhaulReturns x = Scene.paid(20);
        x.giveBack(0, 0, 1, NEW);
        Check.is("released by a return that would be below 0", x.released(0), 0);
        x.giveBack(0, 0, 8, NEW);
        Check.is("released by the next return", x.released(0), 17000 - 9900);
    }

    /** "if there is no such sale" */
    private static void promise15NoSuchSale() {
        for (int sale : Edges.outside(0, 0)) {
            Check.noSuch("released(" + sale + ")", () -> Scene.paid(4), x -> x.released(sale));
        }
        for (int sale : Edges.outside(0, 39)) {
            Check.noSuch("released(" + sale + ") with 40 sales", Scene::full, x -> x.released(sale));
        }
        Check.noSuch("released without a sale", BackhaulReturns::new, x -> x.released(0));
        BackhaulReturns last = Scene.fullPaidLast();
        last.giveBack(39, 0, 1, NEW);
        Check.is("released of the last of 40 sales", last.released(39), 1000);
    }

    /** "Returns all restocking fees, together." */
    private static void promise16SumsUp() {
        BackhaulReturns x = Scene.paid(4);
        x.open(5);
        x.add(1, 1, 2);
        x.pay(1);
        x.pass(15);
        x.giveBack(0, 0, 1, NEW);
        Check.is("fees of one return", x.fees(), 150);
        x.quote(0, 0, 1, NEW);
        Check.is("fees after a quote", x.fees(), 150);
        x.giveBack(1, 0, 1, OPENED);
        Check.is("fees of two customers", x.fees(), 300);
        x.pass(16);
        x.giveBack(0, 0, 1, DAMAGED);
        Check.is("fees of three returns", x.fees(), 800);
        x.giveBack(1, 0, 1, DEFECTIVE);
        Check.is("fees after a DEFECTIVE unit", x.fees(), 800);
        x.exchange(0, 0, 1, NEW, 0);
        Check.is("fees after an exchange", x.fees(), 800);
    }

    private static void promise16NothingYet() {
        Check.is("fees at first", new BackhaulReturns().fees(), 0);
        BackhaulReturns x = Scene.aged(4, 14);
        x.giveBack(0, 0, 4, NEW);
        Check.is("fees at an age of 14", x.fees(), 0);
        BackhaulReturns late = Scene.aged(4, 61);
        Check.holds("giveBack at 61 throws", Check.thrownBy(() -> late.giveBack(0, 0, 1, NEW)) == IllegalStateException.class);
        Check.is("fees after a refused return", late.fees(), 0);
    }

    /** "a sale that was made by an exchange has that of the sale whose units were exchanged" */
    private static void promises17And18Trace() {
        BackhaulReturns x = new BackhaulReturns();
        x.open(1);
        x.open(2);
        x.add(1, 0, 4);
        dueTrace(x, 0, 0, 0);
        dueTrace(x, 1, 1, 0);
        x.pay(1);
        x.exchange(1, 0, 2, NEW, 1);
        x.exchange(1, 0, 1, NEW, 2);
        dueTrace(x, 2, 1, 1);
        dueTrace(x, 3, 1, 1);
        x.exchange(2, 0, 1, NEW, 3);
        dueTrace(x, 4, 1, 2);
        x.pass(40);
        x.exchange(4, 0, 1, NEW, 3);
        dueTrace(x, 5, 1, 3);
        x.open(2);
        dueTrace(x, 6, 6, 0);
        dueTrace(x, 1, 1, 0);
    }

    /** "a sale that was opened is its own first sale" */
    private static void promise17OpenedSale() {
        BackhaulReturns x = Scene.fullPaidLast();
        for (int sale = 0; sale < 40; sale++) {
            dueTrace(x, sale, sale, 0);
        }
    }

    /** As long a chain as the score lets through in 60 days: 3 exchanges, 2 more a month later. */
    private static void promise18LongestChain() {
        BackhaulReturns x = Scene.paid(1);
        int[] due = {0, 0, 0, 30, 0};
        for (int sale = 0; sale < due.length; sale++) {
            Scene.after(x, due[sale]);
            Check.is("exchange of sale " + sale, x.exchange(sale, 0, 1, NEW, sale), 0);
            dueTrace(x, sale + 1, 0, sale + 1);
        }
    }

    private static void dueTrace(BackhaulReturns x, int sale, int first, int exchanges) {
        Check.is("firstSale(" + sale + ")", x.firstSale(sale), first);
        Check.is("exchanges(" + sale + ")", x.exchanges(sale), exchanges);
    }

    /** "if there is no such sale" */
    private static void promises17And18NoSuchSale() {
        for (int sale : Edges.outside(0, 0)) {
            Check.noSuch("firstSale(" + sale + ")", () -> Scene.paid(4), x -> x.firstSale(sale));
            Check.noSuch("exchanges(" + sale + ")", () -> Scene.paid(4), x -> x.exchanges(sale));
        }
        for (int sale : Edges.outside(0, 39)) {
            Check.noSuch("firstSale(" + sale + ") with 40 sales", Scene::full, x -> x.firstSale(sale));
            Check.noSuch("exchanges(" + sale + ") with 40 sales", Scene::full, x -> x.exchanges(sale));
        }
        Check.noSuch("firstSale without a sale", BackhaulReturns::new, x -> x.firstSale(0));
        Check.noSuch("exchanges without a sale", BackhaulReturns::new, x -> x.exchanges(0));
    }
}
