/** Promise 23: score, and how a score blocks. */
public final class ScoresTest {
    private static final int NEW = BackhaulReturns.NEW;

    public static void main(String[] args) {
        promise23CountsUnitsAndEvents();
        promise23Windows();
        promise23Chains();
        promise23OfEachCustomer();
        promise23SlidesOn();
        promise23OldEventsLeaveAlone();
        promise23BlocksFrom100();
        promise23Refusals();
        Check.finish("ScoresTest");
    }

    private static void promise23CountsUnitsAndEvents() {
        BackhaulReturns x = Scene.paid(20);
        Check.is("score at first", x.score(3), 0);
        x.giveBack(0, 0, 1, NEW);
        Check.is("score after a return of 1", x.score(3), 15);
        x.exchange(0, 0, 3, NEW, 1);
        Check.is("score after an exchange of 3", x.score(3), 50);
        x.quote(0, 0, 3, NEW);
        Check.is("score after a quote", x.score(3), 50);
        x.giveBack(1, 0, 2, NEW);
        Check.is("score after a return from an exchange's sale", x.score(3), 75);
        BackhaulReturns all = Scene.paid(20);
        all.giveBack(0, 0, 20, NEW);
        Check.is("score after a return of 20", all.score(3), 205);
    }

    private static void promise23Windows() {
        int[][] due = {{1, 25}, {29, 25}, {30, 5}, {31, 5}, {89, 5}, {90, 0}, {91, 0}, {365, 0}};
        for (int[] d : due) {
            BackhaulReturns x = Scene.paid(4);
            x.giveBack(0, 0, 2, NEW);
            x.pass(d[0]);
            Check.is("score after " + d[0] + " days", x.score(3), d[1]);
        }
        int[][] chained = {{29, 70}, {30, 30}, {89, 30}, {90, 0}};
        for (int[] d : chained) {
            BackhaulReturns x = chain(2);
            x.pass(d[0]);
            Check.is("score of a chain after " + d[0] + " days", x.score(3), d[1]);
        }
    }

    /** Two units go through as many exchanges, one after another, all on day 0. */
    private static BackhaulReturns chain(int exchanges) {
        BackhaulReturns x = Scene.paid(2);
        for (int sale = 0; sale < exchanges; sale++) {
            x.exchange(sale, 0, 2, NEW, sale % 10);
        }
        return x;
    }

    private static void promise23Chains() {
        Check.is("score of one exchange", chain(1).score(3), 25);
        Check.is("score of a chain of two", chain(2).score(3), 70);
        Check.is("score of a chain of three", chain(3).score(3), 115);
        BackhaulReturns x = chain(1);
        x.giveBack(1, 0, 1, NEW);
        Check.is("a return is no exchange of a chain", x.score(3), 40);
        BackhaulReturns beside = Scene.paid(4);
        beside.exchange(0, 0, 1, NEW, 1);
        beside.exchange(0, 0, 1, NEW, 1);
        Check.is("two exchanges of the same opened sale", beside.score(3), 30);
    }

    private static void promise23OfEachCustomer() {
        BackhaulReturns x = new BackhaulReturns();
        for (int customer = 0; customer < 10; customer++) {
            x.open(customer);
            x.add(customer, 0, 10);
            x.pay(customer);
        }
        for (int customer = 0; customer < 9; customer++) {
            x.giveBack(customer, 0, customer + 1, NEW);
        }
        for (int customer = 0; customer < 9; customer++) {
            Check.is("score(" + customer + ")", x.score(customer), 10 * customer + 15);
        }
        Check.is("score(9)", x.score(9), 0);
    }

    private static void promise23SlidesOn() {
        BackhaulReturns x = new BackhaulReturns();
        for (int turn = 0; turn < 36; turn++) {
            x.open(8);
            x.add(turn, 0, 1);
            x.pay(turn);
            x.giveBack(turn, 0, 1, NEW);
            // one return each 10 days: at most 3 in 30 days, at most 9 in 90.
            int units = Math.min(turn + 1, 3);
            int events = Math.min(turn + 1, 9);
            Check.is("score, turn " + turn, x.score(8), 10 * units + 5 * events);
            x.pass(10);
        }
    }

    /** A new event, when the first ones have left the windows or just not, leaves the others as they are. */
    private static void promise23OldEventsLeaveAlone() {
        BackhaulReturns x = Scene.paid(1);
        x.giveBack(0, 0, 1, NEW);
        x.pass(70);
        x.open(3);
        x.add(1, 0, 4);
        x.pay(1);
        x.exchange(1, 0, 2, NEW, 0);
        x.exchange(2, 0, 2, NEW, 0);
        Check.is("score on day 70", x.score(3), 5 + 25 + 45);
        x.pass(25);
        Check.is("score on day 95", x.score(3), 25 + 45);
        x.giveBack(1, 0, 1, NEW);
        Check.is("score on day 95, one more back", x.score(3), 25 + 45 + 15);
        x.pass(5);
        Check.is("score on day 100", x.score(3), 5 + 25 + 15);
        BackhaulReturns edge = Scene.paid(1);
        edge.giveBack(0, 0, 1, NEW);
        edge.pass(89);
        edge.open(3);
        edge.add(1, 0, 1);
        edge.pay(1);
        edge.giveBack(1, 0, 1, NEW);
        Check.is("score on day 89, one more back", edge.score(3), 5 + 15);
        edge.pass(1);
        Check.is("score on day 90", edge.score(3), 15);
    }

    /** Single units return: 7 on day 0, 5 on day 30, the rest on day 60. Each starts below 100. */
    private static BackhaulReturns returnsInThreeMonths(int returns) {
        BackhaulReturns x = Scene.paid(20);
        for (int i = 0; i < returns; i++) {
            x.giveBack(0, 0, 1, NEW);
            if (i == 6 || i == 11) {
                x.pass(30);
            }
        }
        return x;
    }

    private static void promise23BlocksFrom100() {
        Check.is("score of 7 returns, 30 days later", returnsInThreeMonths(7).score(3), 35);
        Check.is("score of 12 returns, 30 days later", returnsInThreeMonths(12).score(3), 60);
        Check.is("score of 14 returns", returnsInThreeMonths(14).score(3), 90);
        BackhaulReturns x = returnsInThreeMonths(15);
        Check.is("score of 15 returns", x.score(3), 105);
        Check.badState("return with a score of 105", () -> returnsInThreeMonths(15), y -> y.giveBack(0, 0, 1, NEW));
        Check.badState("exchange with a score of 105", () -> returnsInThreeMonths(15), y -> y.exchange(0, 0, 1, NEW, 0));
        x.pass(29);
        Check.is("score of 15 returns, on day 89", x.score(3), 105);
        x.pass(1);
        Check.is("score of 15 returns, on day 90", x.score(3), 40);
        Check.badState("return with a score of 100", Scene::blocked, y -> y.giveBack(0, 0, 1, NEW));
        Check.badState("return a day before the block ends", () -> blockedFor(29), y -> y.giveBack(0, 0, 1, NEW));
        Check.is("return when the block has ended", blockedFor(30).giveBack(0, 0, 1, BackhaulReturns.DEFECTIVE), 900);
    }

    private static BackhaulReturns blockedFor(int days) {
        BackhaulReturns x = Scene.blocked();
        x.pass(days);
        return x;
    }

    private static void promise23Refusals() {
        for (int customer : new int[] {-1, 10, Integer.MIN_VALUE, Integer.MAX_VALUE}) {
            Check.badArgument("score(" + customer + ")", () -> Scene.paid(4), x -> x.score(customer));
        }
    }
}
