/** Promise 23: score, and how a score blocks. */
public final class ScoresTest {
    private static final int NEW = BackhaulReturns.NEW;
    private static final int DEFECTIVE = BackhaulReturns.DEFECTIVE;

    public static void main(String[] args) {
        promise23CountsUnitsAndEvents();
        promise23FarAbove100();
        promise23UnitsOfTheLast30Days();
        promise23EventsOfTheLast90Days();
        promise23ChainsOfTheLast90Days();
        promise23Chains();
        promise23OfEachCustomer();
        promise23SlidesOn();
        promise23OldEventsLeaveAlone();
        promise23LastDays();
        promise23MostEventsThatCount();
        promise23BlocksFrom100();
        promise23BlocksReturnsAndExchangesOnly();
        promise23CustomerIs0To9();
        Check.finish("ScoresTest");
    }

    private static void promise23CountsUnitsAndEvents() {
        BackhaulReturns x = Scene.paid(20);
        Check.is("score at first", x.score(3), 0);
        x.giveBack(0, 0, 1, NEW);
        Check.is("score after a return of 1", x.score(3), 15);
        x.exchange(0, 0, 3, NEW, 1);
        Check.is("score after an exchange of 3", x.score(3), 50);
        x.quote(0, 0, 3, NEW);
        Check.is("score after a quote", x.score(3), 50);
        x.giveBack(1, 0, 2, NEW);
        Check.is("score after a return from an exchange's sale", x.score(3), 75);
    }

    private static void promise23FarAbove100() {
        BackhaulReturns x = Scene.paid(20);
        x.giveBack(0, 0, 20, NEW);
        Check.is("score after a return of 20", x.score(3), 205);
        BackhaulReturns most = Scene.paid(20);
        most.exchange(0, 0, 1, NEW, 1);
        most.pass(30);
        most.exchange(1, 0, 1, NEW, 0);
        Check.is("score of a chain's second exchange", most.score(3), 5 + 35);
        most.giveBack(0, 0, 5, NEW);
        Check.is("score just below 100", most.score(3), 95);
        most.giveBack(0, 0, 14, NEW);
        Check.is("score far above 100", most.score(3), 240);
    }

    /** "units that the customer has brought back on the last 30 days, today included" */
    private static void promise23UnitsOfTheLast30Days() {
        int[][] due = {{0, 25}, {1, 25}, {29, 25}, {30, 5}, {31, 5}};
        for (int[] d : due) {
            BackhaulReturns x = Scene.paid(4);
            x.giveBack(0, 0, 2, NEW);
            Check.is("score after " + d[0] + " days", Scene.after(x, d[0]).score(3), d[1]);
            BackhaulReturns late = Scene.aged(4, 60);
            late.exchange(0, 0, 2, NEW, 1);
            Check.is("score " + d[0] + " days after day 60", Scene.after(late, d[0]).score(3), d[1]);
        }
    }

    /** "the number of returns and exchanges of the customer on the last 90 days" */
    private static void promise23EventsOfTheLast90Days() {
        int[][] due = {{88, 10}, {89, 10}, {90, 0}, {91, 0}, {365, 0}};
        for (int[] d : due) {
            BackhaulReturns x = Scene.paid(4);
            x.giveBack(0, 0, 2, NEW);
            x.exchange(0, 0, 2, NEW, 1);
            Check.is("score after " + d[0] + " days", Scene.after(x, d[0]).score(3), d[1]);
        }
    }

    /** "the number of exchanges among these of a sale that was itself made by an exchange" */
    private static void promise23ChainsOfTheLast90Days() {
        int[][] due = {{0, 70}, {29, 70}, {30, 30}, {89, 30}, {90, 0}};
        for (int[] d : due) {
            Check.is("score of a chain after " + d[0] + " days", Scene.after(chain(2), d[0]).score(3), d[1]);
        }
    }

    /** Two units go through as many exchanges, one after another, all on day 0. */
    private static BackhaulReturns chain(int exchanges) {
        BackhaulReturns x = Scene.paid(2);
        for (int sale = 0; sale < exchanges; sale++) {
            x.exchange(sale, 0, 2, NEW, sale % 10);
        }
        return x;
    }

    private static void promise23Chains() {
        Check.is("score of one exchange", chain(1).score(3), 25);
        Check.is("score of a chain of two", chain(2).score(3), 70);
        Check.is("score of a chain of three", chain(3).score(3), 115);
        BackhaulReturns x = chain(1);
        x.giveBack(1, 0, 1, NEW);
        Check.is("a return is no exchange of a chain", x.score(3), 40);
        BackhaulReturns beside = Scene.paid(4);
        beside.exchange(0, 0, 1, NEW, 1);
        beside.exchange(0, 0, 1, NEW, 1);
        Check.is("two exchanges of the same opened sale", beside.score(3), 30);
    }

    private static void promise23OfEachCustomer() {
        BackhaulReturns x = new BackhaulReturns();
        for (int customer = 0; customer < 10; customer++) {
            x.open(customer);
            x.add(customer, 0, 10);
            x.pay(customer);
        }
        for (int customer = 0; customer < 9; customer++) {
            x.giveBack(customer, 0, customer + 1, NEW);
        }
        for (int customer = 0; customer < 9; customer++) {
            Check.is("score(" + customer + ")", x.score(customer), 10 * customer + 15);
        }
        Check.is("score(9)", x.score(9), 0);
    }

    private static void promise23SlidesOn() {
        BackhaulReturns x = new BackhaulReturns();
        for (int turn = 0; turn < 36; turn++) {
            x.open(8);
            x.add(turn, 0, 1);
            x.pay(turn);
            x.giveBack(turn, 0, 1, NEW);
            // one return each 10 days: at most 3 in 30 days, at most 9 in 90.
            int units = Math.min(turn + 1, 3);
            int events = Math.min(turn + 1, 9);
            Check.is("score, turn " + turn, x.score(8), 10 * units + 5 * events);
            x.pass(10);
        }
    }

    /** A new event, when the first ones have left the windows or just not, leaves the others as they are. */
    private static void promise23OldEventsLeaveAlone() {
        BackhaulReturns x = Scene.paid(1);
        x.giveBack(0, 0, 1, NEW);
        x.pass(70);
        x.open(3);
        x.add(1, 0, 4);
        x.pay(1);
        x.exchange(1, 0, 2, NEW, 0);
        x.exchange(2, 0, 2, NEW, 0);
        Check.is("score on day 70", x.score(3), 5 + 25 + 45);
        x.pass(25);
        Check.is("score on day 95", x.score(3), 25 + 45);
        x.giveBack(1, 0, 1, NEW);
        Check.is("score on day 95, one more back", x.score(3), 25 + 45 + 15);
        x.pass(5);
        Check.is("score on day 100", x.score(3), 5 + 25 + 15);
        BackhaulReturns edge = Scene.paid(1);
        edge.giveBack(0, 0, 1, NEW);
        edge.pass(89);
        edge.open(3);
        edge.add(1, 0, 1);
        edge.pay(1);
        edge.giveBack(1, 0, 1, NEW);
        Check.is("score on day 89, one more back", edge.score(3), 5 + 15);
        edge.pass(1);
        Check.is("score on day 90", edge.score(3), 15);
    }

    /** The windows at the end of the calendar. */
    private static void promise23LastDays() {
        BackhaulReturns x = new BackhaulReturns();
        for (int i = 0; i < 273; i++) {
            x.pass(365);
        }
        x.pass(99911 - 273 * 365);
        x.open(3);
        x.add(0, 0, 2);
        x.pay(0);
        x.giveBack(0, 0, 1, NEW);
        Check.is("pass to day 99940", x.pass(29), 99940);
        Check.is("score on day 99940", x.score(3), 15);
        Check.is("pass to day 99941", x.pass(1), 99941);
        Check.is("score on day 99941", x.score(3), 5);
        Check.is("pass to the last day", x.pass(59), 100000);
        Check.is("score on the last day", x.score(3), 5);
    }

    /** Single units return: 7 on day 0, 5 on day 30, the rest on day 60. Each starts below 100. */
    private static BackhaulReturns returnsInThreeMonths(int returns) {
        BackhaulReturns x = Scene.paid(20);
        for (int i = 0; i < returns; i++) {
            x.giveBack(0, 0, 1, NEW);
            if (i == 6 || i == 11) {
                x.pass(30);
            }
        }
        return x;
    }

    private static void promise23MostEventsThatCount() {
        Check.is("score of 7 returns, 30 days later", returnsInThreeMonths(7).score(3), 35);
        Check.is("score of 12 returns, 30 days later", returnsInThreeMonths(12).score(3), 60);
        Check.is("score of 14 returns", returnsInThreeMonths(14).score(3), 90);
        BackhaulReturns x = returnsInThreeMonths(15);
        Check.is("score of 15 returns", x.score(3), 105);
        Check.badState("return with a score of 105", () -> returnsInThreeMonths(15), y -> y.giveBack(0, 0, 1, NEW));
        Check.badState("exchange with a score of 105", () -> returnsInThreeMonths(15), y -> y.exchange(0, 0, 1, NEW, 0));
        x.pass(29);
        Check.is("score of 15 returns, on day 89", x.score(3), 105);
        x.pass(1);
        Check.is("score of 15 returns, on day 90", x.score(3), 40);
    }

    /** "A customer with a score of 100 or more is blocked" */
    private static void promise23BlocksFrom100() {
        Check.is("score of 95", Scene.nearlyBlocked().score(3), 95);
        Check.is("return with a score of 95", Scene.nearlyBlocked().giveBack(0, 0, 1, NEW), 900);
        Check.is("score of 100", Scene.blocked().score(3), 100);
        Check.badState("return with a score of 100", Scene::blocked, x -> x.giveBack(0, 0, 1, NEW));
        Check.badState("exchange with a score of 100", Scene::blocked, x -> x.exchange(0, 0, 1, NEW, 0));
        Check.badState("return with a score of 115", () -> chain(3), x -> x.giveBack(3, 0, 1, NEW));
        Check.badState("exchange with a score of 115", () -> chain(3), x -> x.exchange(3, 0, 1, NEW, 0));
        Check.badState("return a day before the block ends", () -> Scene.after(Scene.blocked(), 29), x -> x.giveBack(0, 0, 1, NEW));
        Check.badState("exchange a day before the block ends", () -> Scene.after(Scene.blocked(), 29), x -> x.exchange(0, 0, 1, NEW, 0));
        Check.is("return when the block has ended", Scene.after(Scene.blocked(), 30).giveBack(0, 0, 1, DEFECTIVE), 900);
        Check.is("exchange when the block has ended", Scene.after(Scene.blocked(), 30).exchange(0, 0, 1, NEW, 0), 100);
    }

    /** "returns and exchanges of the customer's sales are not possible"; all else is. */
    private static void promise23BlocksReturnsAndExchangesOnly() {
        BackhaulReturns x = Scene.blocked();
        Check.is("open of a blocked customer", x.open(3), 1);
        Check.is("add to a blocked customer's sale", x.add(1, 0, 2), 0);
        Check.is("pay of a blocked customer", x.pay(1), 2000);
        Check.is("quote for a blocked customer", x.quote(1, 0, 1, NEW), 1000);
        Check.is("score of a blocked customer", x.score(3), 100);
    }

    /** "customer: 0 to 9" */
    private static void promise23CustomerIs0To9() {
        for (int customer : new int[] {0, 9}) {
            BackhaulReturns x = Scene.paid(customer, 1000, 1);
            x.giveBack(0, 0, 1, NEW);
            Check.is("score(" + customer + ")", x.score(customer), 15);
        }
        for (int customer : Edges.NO_CUSTOMER) {
            Check.badArgument("score(" + customer + ")", () -> Scene.paid(4), x -> x.score(customer));
        }
    }
}
