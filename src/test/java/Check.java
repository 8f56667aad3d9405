import java.util.function.LongSupplier;

/** Counts the answers that are as due, and prints those that are not. */
final class Check {

    static final Class<IllegalArgumentException> ARGUMENT = IllegalArgumentException.class;
    static final Class<IllegalStateException> STATE = IllegalStateException.class;
    static final Class<IndexOutOfBoundsException> INDEX = IndexOutOfBoundsException.class;

    interface Call {
        void run();
    }

    /** A test takes seconds: one that goes on so long is held up by a call that does not end. */
    private static final int MOST_SECONDS = 240;

    private static int right;
    private static int wrong;

    static {
        Thread guard = new Thread(Check::endAfterAll);
        guard.setDaemon(true);
        guard.start();
    }

    private Check() {
    }

    static void same(String call, long got, long due) {
        note(got == due, call + " answered " + got + ", due is " + due);
    }

    static void same(String call, double got, double due) {
        note(got == due, call + " answered " + got + ", due is " + due);
    }

    static void same(String call, String got, String due) {
        note(got.equals(due), call + " answered " + got + ", due is " + due);
    }

    static void holds(String what, boolean holds) {
        note(holds, what + " does not hold");
    }

    /** The answer, or the name of what was thrown in its place. */
    static String answer(LongSupplier call) {
        try {
            return "" + call.getAsLong();
        } catch (RuntimeException e) {
            return "throws." + e.getClass().getSimpleName();
        }
    }

    static void throwing(String call, Class<? extends RuntimeException> due, Call action) {
        Class<?> got = null;
        try {
            action.run();
        } catch (RuntimeException e) {
            got = e.getClass();
        }
        note(got == due, call + " threw " + got + ", due is " + due);
    }

    /** Checks that exactly this kind is thrown, and that the call has changed nothing that the digest sees. */
    static void refuses(PumpOaths object, String call, Class<? extends RuntimeException> due, Call action) {
        long before = object.digest();
        throwing(call, due, action);
        same(call + " left the digest", object.digest(), before);
    }

    static void close(String test) {
        System.out.println(test + ": " + right + " answers right, " + wrong + " wrong");
        if (wrong != 0) {
            System.exit(1);
        }
    }

    private static void endAfterAll() {
        try {
            Thread.sleep(1000L * MOST_SECONDS);
        } catch (InterruptedException e) {
            return;
        }
        System.out.println("a call has not ended in " + MOST_SECONDS + " seconds");
        Runtime.getRuntime().halt(1);
    }

    private static void note(boolean isRight, String complaint) {
        if (isRight) {
            right++;
        } else {
            wrong++;
            System.out.println(complaint);
        }
    }
}
