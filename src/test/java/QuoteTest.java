/** Promise 14: quote. */
public final class QuoteTest {
    private static final int NEW = BackhaulReturns.NEW;
    private static final int DEFECTIVE = BackhaulReturns.DEFECTIVE;

    public static void main(String[] args) {
        promise14IsWhatAReturnRefunds();
        promise14FeeSteps();
        promise14LessThanZeroIsZero();
        promise14BlockedOrNot();
        promise14NothingChanges();
        promise14NoSuchSale();
        promise14NoSuchLine();
        promise14UnitsAre1To20();
        promise14Conditions();
        promise14OpenSale();
        promise14AgeAbove60();
        promise14FewerUnitsKept();
        promise14FirstListedIsThrown();
        Check.finish("QuoteTest");
    }

    /** "what a return of units would refund now" */
    private static void promise14IsWhatAReturnRefunds() {
        for (int age : new int[] {0, 14, 15, 30, 31, 60}) {
            for (int condition = NEW; condition <= DEFECTIVE; condition++) {
                for (int units : new int[] {1, 5, 10}) {
                    BackhaulReturns x = Scene.aged(10, age);
                    int quoted = x.quote(0, 0, units, condition);
                    Check.is("giveBack of " + units + " as quoted", x.giveBack(0, 0, units, condition), quoted);
                }
            }
        }
    }

    private static void promise14FeeSteps() {
        int[][] due = {{0, 1400}, {14, 1400}, {15, 1190}, {30, 1190}, {31, 700}, {60, 700}};
        for (int[] d : due) {
            Check.is("quote of 2 at an age of " + d[0], Scene.aged(10, d[0]).quote(0, 0, 2, NEW), d[1]);
            Check.is("quote of 2, DEFECTIVE, at " + d[0], Scene.aged(10, d[0]).quote(0, 0, 2, DEFECTIVE), 1400);
        }
        Check.is("the fee is rounded down", Scene.after(Scene.paid(3, 333, 4), 15).quote(0, 0, 1, NEW), 284);
        Check.is("quote in a chain at 15", Scene.chainOfTwo(15).quote(2, 0, 1, NEW), 850);
        Check.is("great amounts", Scene.after(Scene.greatest(), 60).quote(0, 3, 20, NEW), 850000);
    }

    private static void promise14LessThanZeroIsZero() {
        Check.is("quote below zero", Scene.paid(20).quote(0, 0, 1, NEW), 0);
        BackhaulReturns x = Scene.lines(1112, 18888);
        x.pay(0);
        Check.is("quote of just zero", x.quote(0, 0, 1, NEW), 0);
        Check.is("quote of the other line", x.quote(0, 1, 1, NEW), 15888);
    }

    /** "whether the customer is blocked or not" */
    private static void promise14BlockedOrNot() {
        Check.is("quote with a score of 95", Scene.nearlyBlocked().quote(0, 0, 1, NEW), 900);
        Check.is("quote with a score of 100", Scene.blocked().quote(0, 0, 1, NEW), 900);
        Check.is("quote with 40 sales", Scene.full().quote(0, 0, 10, NEW), 8000);
    }

    /** "nothing changes" */
    private static void promise14NothingChanges() {
        BackhaulReturns x = Scene.aged(10, 15);
        x.quote(0, 0, 2, NEW);
        x.quote(0, 0, 10, DEFECTIVE);
        Check.holds("quote changes nothing", Picture.of(Scene.aged(10, 15)).equals(Picture.of(x)));
        BackhaulReturns blocked = Scene.blocked();
        blocked.quote(0, 0, 11, NEW);
        Check.holds("quote of a blocked customer changes nothing", Picture.of(Scene.blocked()).equals(Picture.of(blocked)));
    }

    /** "if there is no such sale" */
    private static void promise14NoSuchSale() {
        for (int sale : Edges.outside(0, 0)) {
            Check.noSuch("quote of sale " + sale, () -> Scene.paid(4), x -> x.quote(sale, 0, 1, NEW));
        }
        for (int sale : Edges.outside(0, 39)) {
            Check.noSuch("quote of sale " + sale + " with 40", Scene::fullPaidLast, x -> x.quote(sale, 0, 1, NEW));
        }
        Check.noSuch("quote without a sale", BackhaulReturns::new, x -> x.quote(0, 0, 1, NEW));
        Check.is("quote of the last of 40 sales", Scene.fullPaidLast().quote(39, 0, 1, NEW), 1000);
    }

    /** "or line" */
    private static void promise14NoSuchLine() {
        for (int line : Edges.outside(0, 0)) {
            Check.noSuch("quote of line " + line, () -> Scene.paid(4), x -> x.quote(0, line, 1, NEW));
            Check.noSuch("quote of line " + line + " by an exchange", Scene::exchanged, x -> x.quote(1, line, 1, NEW));
        }
        for (int line : Edges.outside(0, 5)) {
            Check.noSuch("quote of line " + line + " of six", Scene::sixPaid, x -> x.quote(0, line, 1, NEW));
        }
        Check.noSuch("quote of a sale without a line", () -> Scene.lines(), x -> x.quote(0, 0, 1, NEW));
        Check.is("quote of the sixth line", Scene.sixPaid().quote(0, 5, 1, NEW), 6);
    }

    /** "units: 1 to 20" */
    private static void promise14UnitsAre1To20() {
        Check.is("quote of 1", Scene.paid(3, 10, 20).quote(0, 0, 1, NEW), 10);
        Check.is("quote of 20", Scene.paid(3, 10, 20).quote(0, 0, 20, NEW), 200);
        for (int units : Edges.NO_UNITS) {
            Check.badArgument("quote of " + units, () -> Scene.paid(20), x -> x.quote(0, 0, units, NEW));
        }
    }

    /** "condition: NEW, OPENED, DAMAGED or DEFECTIVE" */
    private static void promise14Conditions() {
        int[] due = {850, 850, 850, 1000};
        for (int condition = 0; condition < 4; condition++) {
            Check.is("quote in condition " + condition, Scene.aged(4, 15).quote(0, 0, 1, condition), due[condition]);
        }
        for (int condition : Edges.NO_CONDITION) {
            Check.badArgument("quote in condition " + condition, () -> Scene.paid(4), x -> x.quote(0, 0, 1, condition));
        }
    }

    /** "if the sale is open" */
    private static void promise14OpenSale() {
        Check.badState("quote of an open sale", Scene::open, x -> x.quote(0, 0, 1, NEW));
        BackhaulReturns x = Scene.open();
        x.pay(0);
        Check.is("quote as soon as it is paid", x.quote(0, 0, 1, NEW), 1000);
    }

    /** "its age is above 60" */
    private static void promise14AgeAbove60() {
        Check.is("quote at an age of 60", Scene.aged(4, 60).quote(0, 0, 1, NEW), 500);
        Check.badState("quote at an age of 61", () -> Scene.aged(4, 61), x -> x.quote(0, 0, 1, NEW));
        Check.badState("quote at 61, DEFECTIVE", () -> Scene.aged(4, 61), x -> x.quote(0, 0, 1, DEFECTIVE));
        for (int sale = 0; sale < 3; sale++) {
            int s = sale;
            Check.is("quote in a chain at 60", Scene.chainOfTwo(60).quote(s, 0, 1, NEW), 500);
            Check.badState("quote in a chain at 61", () -> Scene.chainOfTwo(61), x -> x.quote(s, 0, 1, NEW));
        }
    }

    /** "or fewer units are kept" */
    private static void promise14FewerUnitsKept() {
        Check.is("quote of 4 of 4", Scene.paid(4).quote(0, 0, 4, NEW), 4000);
        Check.badState("quote of 5 of 4", () -> Scene.paid(4), x -> x.quote(0, 0, 5, NEW));
        Check.badState("quote of 20 of 19", () -> Scene.paid(19), x -> x.quote(0, 0, 20, NEW));
        Check.badState("quote of 1 of 0", Scene::allBack, x -> x.quote(0, 0, 1, NEW));
        Check.is("quote of 11 of 11, blocked", Scene.blocked().quote(0, 0, 11, NEW), 9900);
        Check.badState("quote of 12 of 11, blocked", Scene::blocked, x -> x.quote(0, 0, 12, NEW));
        Check.badState("quote of 2 of 1, by an exchange", Scene::exchanged, x -> x.quote(1, 0, 2, NEW));
    }

    /** "if several apply, the one that it lists first is thrown" */
    private static void promise14FirstListedIsThrown() {
        for (int sale : Edges.outside(0, 0)) {
            Check.noSuch("quote, all wrong, sale " + sale, Scene::open, x -> x.quote(sale, 9, 0, 9));
        }
        for (int line : Edges.outside(0, 0)) {
            Check.noSuch("quote, all wrong, line " + line, Scene::open, x -> x.quote(0, line, 0, 9));
        }
        for (int units : Edges.NO_UNITS) {
            Check.badArgument("quote of " + units + ", open", Scene::open, x -> x.quote(0, 0, units, NEW));
            Check.badArgument("quote of " + units + " at 61", () -> Scene.aged(4, 61), x -> x.quote(0, 0, units, NEW));
        }
        for (int condition : Edges.NO_CONDITION) {
            Check.badArgument("quote in " + condition + ", open", Scene::open, x -> x.quote(0, 0, 1, condition));
            Check.badArgument("quote in " + condition + " of 5 of 4", () -> Scene.paid(4), x -> x.quote(0, 0, 5, condition));
        }
    }
}
