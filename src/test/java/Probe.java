import java.util.function.Supplier;

/** Looks at all that an object holds, also at what no call tells: its text, its saved states, the night that it is in. */
final class Probe {

    private static final int MOST_SAVED = 4;

    private Probe() {
    }

    /** Checks that two objects which were made in two ways can't be told from each other. */
    static void same(String what, Supplier<PumpOaths> got, Supplier<PumpOaths> due) {
        for (int undos = 0; undos <= MOST_SAVED + 1; undos++) {
            Check.same(what + ", " + undos + " undone", look(got.get(), undos), look(due.get(), undos));
        }
    }

    /** Checks it but for the saved states. */
    static void sameNow(String what, Supplier<PumpOaths> got, Supplier<PumpOaths> due) {
        Check.same(what, lookNow(got.get()), lookNow(due.get()));
    }

    private static String look(PumpOaths x, int undos) {
        StringBuilder seen = new StringBuilder();
        for (int i = 0; i < undos; i++) {
            seen.append(Check.answer(x::undo)).append(' ');
        }
        seen.append(x.digest()).append(' ');
        return seen.append(lookNow(x)).toString();
    }

    private static String lookNow(PumpOaths x) {
        StringBuilder seen = new StringBuilder();
        values(x, seen);
        seen.append("text ").append(Check.answer(x::carryOut)).append(' ');
        seen.append(Check.answer(x::clearText)).append(' ');
        values(x, seen);
        seen.append("day ").append(Check.answer(() -> x.pass(1440))).append(' ');
        values(x, seen);
        return seen.toString();
    }

    private static void values(PumpOaths x, StringBuilder seen) {
        for (int what = 0; what < 14; what++) {
            seen.append(x.value(what)).append(' ');
        }
        for (int what = 0; what < 3; what++) {
            seen.append(x.setting(what)).append(' ');
        }
        for (int hour = 0; hour < 24; hour++) {
            seen.append(x.demand(hour)).append(' ');
        }
        for (int what = 0; what < 5; what++) {
            seen.append(x.water(what)).append(' ');
        }
        seen.append(Check.answer(x::nightLeak)).append(" pumps ");
        int pumps = x.value(4);
        for (int i = 0; i < 8 * pumps; i++) {
            seen.append(x.pump(i / 8, i % 8)).append(' ');
        }
        seen.append("log ");
        int entries = x.value(13);
        for (int i = 0; i < 3 * entries; i++) {
            seen.append(x.entry(i / 3, i % 3)).append(' ');
        }
    }
}
