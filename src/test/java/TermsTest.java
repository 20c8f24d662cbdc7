import java.util.function.Consumer;

/** What the document says of all calls: how many there are, and that one that throws changes nothing. */
public final class TermsTest {
    private static final int NEW = BackhaulReturns.NEW;
    private static final int OPENED = BackhaulReturns.OPENED;
    private static final int DAMAGED = BackhaulReturns.DAMAGED;
    private static final int DEFECTIVE = BackhaulReturns.DEFECTIVE;

    public static void main(String[] args) {
        theFullestObjectAnswersCall512();
        refusedCallsAreCallsToo();
        manyRefusedCallsChangeNothing();
        refusedCallsLeaveTheNextOneAlone();
        Check.finish("TermsTest");
    }

    /** "An object is used for at most 512 calls after it has been made" */
    private static void theFullestObjectAnswersCall512() {
        BackhaulReturns x = fullest();
        for (int sale = 0; sale < 40; sale++) {
            Check.is("released(" + sale + ")", x.released(sale), 850);
            Check.is("keptValue(" + sale + ")", x.keptValue(sale), 101150);
            Check.is("lineValue(" + sale + ", 5)", x.lineValue(sale, 5), 17000);
        }
        for (int customer = 0; customer < 10; customer++) {
            Check.is("score(" + customer + ")", x.score(customer), 60);
        }
        for (int sale = 0; sale < 21; sale++) {
            Check.is("kept(" + sale + ", 0)", x.kept(sale, 0), 19);
        }
        Check.is("call 512", x.sales(), 40);
    }

    /** After 360 calls: 40 sales with 6 lines of 20 units at 1000, and one unit of each sale is back. */
    private static BackhaulReturns fullest() {
        BackhaulReturns x = new BackhaulReturns();
        for (int sale = 0; sale < 40; sale++) {
            x.open(sale % 10);
            for (int line = 0; line < 6; line++) {
                x.add(sale, line, 20);
            }
            x.pay(sale);
        }
        for (int sale = 0; sale < 40; sale++) {
            x.giveBack(sale, 0, 1, NEW);
        }
        return x;
    }

    private static void refusedCallsAreCallsToo() {
        BackhaulReturns x = Scene.blocked();
        for (int call = 7; call < 512; call++) {
            Check.holds("a refused call", Check.thrownBy(() -> x.giveBack(0, 0, 1, NEW)) == IllegalStateException.class);
        }
        Check.is("call 512", x.kept(0, 0), 11);
    }

    /** Customer 3 is blocked, customer 4 has a full open sale and an empty one, customer 5 a chain, customer 6 an old sale. */
    private static BackhaulReturns busy() {
        BackhaulReturns x = new BackhaulReturns();
        x.setProduct(7, 4000, 900, 100);
        paidSale(x, 6, 2);
        x.pass(50);
        paidSale(x, 3, 20);
        paidSale(x, 5, 12);
        x.pass(11);
        x.giveBack(1, 0, 8, OPENED);
        x.giveBack(1, 0, 1, DAMAGED);
        x.exchange(2, 0, 2, DEFECTIVE, 8);
        x.exchange(3, 0, 1, NEW, 9);
        int full = x.open(4);
        for (int line = 0; line < 6; line++) {
            x.add(full, line, line + 1);
        }
        x.open(4);
        return x;
    }

    private static void paidSale(BackhaulReturns x, int customer, int units) {
        int sale = x.open(customer);
        x.add(sale, 7, units);
        x.pay(sale);
    }

    private static void refuse(BackhaulReturns x, Class<? extends RuntimeException> due, Consumer<BackhaulReturns> call) {
        Class<?> got = Check.thrownBy(() -> call.accept(x));
        Check.holds("a call threw " + got + ", due is " + due, got == due);
    }

    private static void refuseAllIndexes(BackhaulReturns x) {
        Class<IndexOutOfBoundsException> due = IndexOutOfBoundsException.class;
        refuse(x, due, y -> y.add(7, 0, 1));
        refuse(x, due, y -> y.pay(-1));
        refuse(x, due, y -> y.paid(7));
        refuse(x, due, y -> y.kept(7, 0));
        refuse(x, due, y -> y.kept(5, 6));
        refuse(x, due, y -> y.keptValue(-1));
        refuse(x, due, y -> y.lineValue(6, 0));
        refuse(x, due, y -> y.giveBack(2, 1, 1, NEW));
        refuse(x, due, y -> y.exchange(3, -1, 1, NEW, 0));
        refuse(x, due, y -> y.quote(7, 0, 1, NEW));
        refuse(x, due, y -> y.released(7));
        refuse(x, due, y -> y.firstSale(40));
        refuse(x, due, y -> y.exchanges(-1));
    }

    private static void refuseAllArguments(BackhaulReturns x) {
        Class<IllegalArgumentException> due = IllegalArgumentException.class;
        refuse(x, due, y -> y.setProduct(7, 1, 1, -1));
        refuse(x, due, y -> y.pass(366));
        refuse(x, due, y -> y.open(10));
        refuse(x, due, y -> y.add(6, 0, 21));
        refuse(x, due, y -> y.add(6, 10, 1));
        refuse(x, due, y -> y.giveBack(2, 0, 1, 4));
        refuse(x, due, y -> y.giveBack(2, 0, 0, NEW));
        refuse(x, due, y -> y.exchange(2, 0, 1, NEW, 10));
        refuse(x, due, y -> y.exchange(2, 0, 21, NEW, 0));
        refuse(x, due, y -> y.quote(2, 0, 1, -1));
        refuse(x, due, y -> y.bestOption(10, NEW));
        refuse(x, due, y -> y.bestWorth(0, 4));
        refuse(x, due, y -> y.stock(7, 5));
        refuse(x, due, y -> y.test(-1, true));
        refuse(x, due, y -> y.score(10));
    }

    private static void refuseAllStates(BackhaulReturns x) {
        Class<IllegalStateException> due = IllegalStateException.class;
        refuse(x, due, y -> y.add(5, 0, 1));
        refuse(x, due, y -> y.add(2, 0, 1));
        refuse(x, due, y -> y.pay(6));
        refuse(x, due, y -> y.pay(2));
        refuse(x, due, y -> y.giveBack(0, 0, 1, NEW));
        refuse(x, due, y -> y.giveBack(1, 0, 1, NEW));
        refuse(x, due, y -> y.giveBack(2, 0, 11, NEW));
        refuse(x, due, y -> y.giveBack(5, 0, 1, NEW));
        refuse(x, due, y -> y.exchange(0, 0, 1, NEW, 0));
        refuse(x, due, y -> y.exchange(1, 0, 1, NEW, 0));
        refuse(x, due, y -> y.exchange(3, 0, 2, NEW, 0));
        refuse(x, due, y -> y.exchange(5, 0, 1, NEW, 0));
        refuse(x, due, y -> y.quote(0, 0, 1, NEW));
        refuse(x, due, y -> y.quote(4, 0, 2, NEW));
        refuse(x, due, y -> y.quote(5, 0, 1, NEW));
        refuse(x, due, y -> y.test(8, false));
    }

    /** "A call that throws changes nothing." */
    private static void manyRefusedCallsChangeNothing() {
        BackhaulReturns x = busy();
        refuseAllIndexes(x);
        refuseAllArguments(x);
        refuseAllStates(x);
        Check.holds("refused calls change nothing", Picture.of(busy()).equals(Picture.of(x)));
    }

    private static void refusedCallsLeaveTheNextOneAlone() {
        BackhaulReturns x = busy();
        refuseAllStates(x);
        Check.is("open after refused calls", x.open(9), busy().open(9));
        Check.is("giveBack after refused calls", x.giveBack(2, 0, 3, NEW), busy().giveBack(2, 0, 3, NEW));
        Check.is("exchange after refused calls", x.exchange(3, 0, 1, NEW, 0), busy().exchange(3, 0, 1, NEW, 0));
        Check.is("test after refused calls", x.test(7, false), BackhaulReturns.REPAIR);
    }
}
