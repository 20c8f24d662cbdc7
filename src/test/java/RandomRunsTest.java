import java.util.Random;

/** Long runs of mixed calls, on the class and on the model at once: each call must do the same on both. */
public final class RandomRunsTest {
    private static final int RUNS = 3000;
    private static final int CALLS = 512;
    private static final int KINDS = 22;

    private final Random random;
    private final BackhaulReturns x = new BackhaulReturns();
    private final Model m = new Model();
    private final int customers;
    private final int longestPass;
    private final int dearest;
    private final int[] a = new int[5];
    private static final long[][] tally = new long[KINDS][2];

    private RandomRunsTest(long seed) {
        random = new Random(seed);
        customers = 1 + random.nextInt(10);
        longestPass = new int[] {1, 3, 12, 40, 365}[random.nextInt(5)];
        dearest = new int[] {3, 40, 700, 3000, 100000}[random.nextInt(5)];
    }

    public static void main(String[] args) {
        for (int run = 0; run < RUNS; run++) {
            new RandomRunsTest(run).go(run);
        }
        for (int kind = 0; kind < KINDS; kind++) {
            Check.holds("calls of kind " + kind + " that answer are rare: " + tally[kind][0], tally[kind][0] > 1000);
            boolean canThrow = kind != 5 && kind != 14;
            Check.holds("calls of kind " + kind + " that throw are rare: " + tally[kind][1], !canThrow || tally[kind][1] > 100);
        }
        Check.finish("RandomRunsTest");
    }

    private void go(int run) {
        for (int call = 0; call < CALLS; call++) {
            int kind = pickKind();
            pickArguments(kind);
            String got = answer(kind, true);
            String due = answer(kind, false);
            tally[kind][due.startsWith("throws") ? 1 : 0]++;
            if (!got.equals(due)) {
                Check.holds("run " + run + ", call " + call + ", kind " + kind + " with " + a[0] + ", " + a[1] + ", "
                        + a[2] + ", " + a[3] + ", " + a[4] + " answered " + got + ", due is " + due, false);
                return;
            }
        }
        Check.holds("run " + run, true);
    }

    private int pickKind() {
        int die = random.nextInt(100);
        if (die < 6) {
            return 2;
        }
        if (die < 18) {
            return 3;
        }
        if (die < 25) {
            return 4;
        }
        if (die < 37) {
            return 10;
        }
        if (die < 45) {
            return 11;
        }
        return random.nextInt(KINDS);
    }

    /** A number from 0 to most, seldom one outside. */
    private int near(int most) {
        int die = random.nextInt(200);
        if (die == 0) {
            return random.nextInt();
        }
        if (die < 3) {
            return random.nextBoolean() ? -1 : most + 1;
        }
        return most < 0 ? 0 : random.nextInt(most + 1);
    }

    private void pickArguments(int kind) {
        for (int i = 0; i < a.length; i++) {
            a[i] = near(i == 1 ? 2 : 9);
        }
        switch (kind) {
            case 0:
                a[1] = 1 + near(dearest - 1);
                a[2] = near(random.nextBoolean() ? dearest : dearest / 2);
                a[3] = near(random.nextBoolean() ? dearest : dearest / 2);
                break;
            case 1:
                a[0] = 1 + near(longestPass - 1);
                break;
            case 2:
            case 21:
                a[0] = near(customers - 1);
                break;
            case 3:
                pickSale();
                a[1] = near(9);
                a[2] = 1 + near(random.nextBoolean() ? 19 : 3);
                break;
            case 17:
            case 18:
                a[1] = near(3);
                break;
            case 19:
                a[1] = near(4);
                break;
            case 20:
                break;
            default:
                pickSale();
                a[2] = 1 + near(random.nextInt(4) == 0 ? 8 : 1);
                a[3] = near(3);
                break;
        }
    }

    /** Mostly one of the last sales, so that chains come about. */
    private void pickSale() {
        int last = m.sales() - 1;
        a[0] = random.nextInt(3) == 0 ? near(last) : Math.max(0, last - random.nextInt(4));
    }

    private String answer(int kind, boolean isReal) {
        try {
            return Integer.toString(isReal ? askReal(kind) : askModel(kind));
        } catch (RuntimeException e) {
            return "throws " + e.getClass().getName();
        }
    }

    private int askReal(int kind) {
        switch (kind) {
            case 0: return x.setProduct(a[0], a[1], a[2], a[3]);
            case 1: return x.pass(a[0]);
            case 2: return x.open(a[0]);
            case 3: return x.add(a[0], a[1], a[2]);
            case 4: return x.pay(a[0]);
            case 5: return x.sales();
            case 6: return x.paid(a[0]);
            case 7: return x.kept(a[0], a[1]);
            case 8: return x.keptValue(a[0]);
            case 9: return x.lineValue(a[0], a[1]);
            case 10: return x.giveBack(a[0], a[1], a[2], a[3]);
            case 11: return x.exchange(a[0], a[1], a[2], a[3], a[4]);
            case 12: return x.quote(a[0], a[1], a[2], a[3]);
            case 13: return x.released(a[0]);
            case 14: return x.fees();
            case 15: return x.firstSale(a[0]);
            case 16: return x.exchanges(a[0]);
            case 17: return x.bestOption(a[0], a[1]);
            case 18: return x.bestWorth(a[0], a[1]);
            case 19: return x.stock(a[0], a[1]);
            case 20: return x.test(a[0], a[1] % 2 == 0);
            default: return x.score(a[0]);
        }
    }

    private int askModel(int kind) {
        switch (kind) {
            case 0: return m.setProduct(a[0], a[1], a[2], a[3]);
            case 1: return m.pass(a[0]);
            case 2: return m.open(a[0]);
            case 3: return m.add(a[0], a[1], a[2]);
            case 4: return m.pay(a[0]);
            case 5: return m.sales();
            case 6: return m.paid(a[0]);
            case 7: return m.kept(a[0], a[1]);
            case 8: return m.keptValue(a[0]);
            case 9: return m.lineValue(a[0], a[1]);
            case 10: return m.giveBack(a[0], a[1], a[2], a[3]);
            case 11: return m.exchange(a[0], a[1], a[2], a[3], a[4]);
            case 12: return m.quote(a[0], a[1], a[2], a[3]);
            case 13: return m.released(a[0]);
            case 14: return m.fees();
            case 15: return m.firstSale(a[0]);
            case 16: return m.exchanges(a[0]);
            case 17: return m.bestOption(a[0], a[1]);
            case 18: return m.bestWorth(a[0], a[1]);
            case 19: return m.stock(a[0], a[1]);
            case 20: return m.test(a[0], a[1] % 2 == 0);
            default: return m.score(a[0]);
        }
    }
}
