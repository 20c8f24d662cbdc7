import java.util.function.Consumer;
import java.util.function.Supplier;

/** Compares answers with those that are due, and prints each one that differs. */
final class Check {
    private static int asked = 0;
    private static int wrong = 0;

    private Check() {
    }

    static void is(String what, long got, long due) {
        asked++;
        if (got != due) {
            fail(what + " answered " + got + ", due is " + due);
        }
    }

    static void holds(String what, boolean isSo) {
        asked++;
        if (!isSo) {
            fail(what);
        }
    }

    /**
     * The call on a scene throws just this exception and changes nothing. The scene is built twice,
     * so that looking at it does not use up the calls of the object that is called.
     */
    static void refuses(String what, Class<? extends RuntimeException> due,
            Supplier<BackhaulReturns> scene, Consumer<BackhaulReturns> call) {
        asked++;
        BackhaulReturns called = scene.get();
        Class<?> got = thrownBy(() -> call.accept(called));
        if (got != due) {
            fail(what + " threw " + (got == null ? "nothing" : got.getSimpleName())
                    + ", due is " + due.getSimpleName());
        }
        String before = Picture.of(scene.get());
        String after = Picture.of(called);
        if (!before.equals(after)) {
            fail(what + " changed something:\n  before " + before + "\n  after  " + after);
        }
    }

    static void noSuch(String what, Supplier<BackhaulReturns> scene, Consumer<BackhaulReturns> call) {
        refuses(what, IndexOutOfBoundsException.class, scene, call);
    }

    static void badArgument(String what, Supplier<BackhaulReturns> scene, Consumer<BackhaulReturns> call) {
        refuses(what, IllegalArgumentException.class, scene, call);
    }

    static void badState(String what, Supplier<BackhaulReturns> scene, Consumer<BackhaulReturns> call) {
        refuses(what, IllegalStateException.class, scene, call);
    }

    /** The class of what the call throws; null if it throws nothing. */
    static Class<?> thrownBy(Runnable call) {
        try {
            call.run();
            return null;
        } catch (RuntimeException e) {
            return e.getClass();
        }
    }

    /** Ends a test program: with exit code 1 if an answer was wrong. */
    static void finish(String program) {
        System.out.println(program + ": " + asked + " checks, " + wrong + " wrong");
        if (wrong != 0 || asked == 0) {
            System.exit(1);
        }
    }

    private static void fail(String text) {
        wrong++;
        System.out.println(text);
    }
}
