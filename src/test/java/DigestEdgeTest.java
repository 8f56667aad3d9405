import java.math.BigInteger;
import java.util.ArrayList;
import java.util.List;

/** The digest, counted once more without an end to its numbers: only their last 64 bits are left. */
public final class DigestEdgeTest {

    private static final BigInteger FACTOR = BigInteger.valueOf(31);

    public static void main(String[] args) {
        knownDigest();
        overflow();
        textLength();
        savedStates();
        pumpsAndLog();
        negativeNight();
        eachValueCounts();
        Check.close("DigestEdgeTest");
    }

    private static List<Long> seen(PumpOaths x, int textLength, int saved) {
        List<Long> all = new ArrayList<>();
        all.add((long) textLength);
        for (int what = 0; what < 14; what++) {
            all.add((long) x.value(what));
        }
        for (int what = 0; what < 3; what++) {
            all.add((long) x.setting(what));
        }
        for (int hour = 0; hour < 24; hour++) {
            all.add((long) x.demand(hour));
        }
        for (int what = 0; what < 5; what++) {
            all.add(x.water(what));
        }
        all.add(x.value(12) == 0 ? 0L : x.nightLeak());
        for (int pump = 0; pump < x.value(4); pump++) {
            for (int what = 0; what < 8; what++) {
                all.add((long) x.pump(pump, what));
            }
        }
        for (int index = 0; index < x.value(13); index++) {
            for (int what = 0; what < 3; what++) {
                all.add((long) x.entry(index, what));
            }
        }
        all.add((long) saved);
        return all;
    }

    private static BigInteger endless(List<Long> values) {
        BigInteger hash = BigInteger.valueOf(3673);
        for (long value : values) {
            hash = hash.multiply(FACTOR).add(BigInteger.valueOf(value));
        }
        return hash;
    }

    private static void due(String what, PumpOaths x, int textLength, int saved) {
        Check.same("digest of " + what, x.digest(), endless(seen(x, textLength, saved)).longValue());
    }

    /** Counted by hand outside of Java. */
    private static void knownDigest() {
        Check.same("digest of a new object", new PumpOaths().digest(), -4117483203255296567L);
    }

    /** "with the overflow of long arithmetic ignored" */
    private static void overflow() {
        for (PumpOaths x : new PumpOaths[] {new PumpOaths(), Made.busy()}) {
            boolean isNew = x.value(4) == 0;
            BigInteger endless = endless(seen(x, isNew ? 0 : 18, isNew ? 0 : 4));
            Check.holds("it needs far more than 64 bits", endless.bitLength() > 200);
            Check.same("the last 64 bits", x.digest(), endless.longValue());
        }
    }

    private static void textLength() {
        for (int length : new int[] {0, 1, 2, 99, 100}) {
            PumpOaths x = new PumpOaths();
            for (int i = 0; i < length; i++) {
                x.append(i);
            }
            due("a text of " + length, x, length, 0);
            x.clearText();
            due("the text that was emptied", x, 0, 0);
        }
    }

    /** "the number of saved states": it is added last, and as it is. */
    private static void savedStates() {
        PumpOaths x = new PumpOaths();
        long none = x.digest();
        for (int calls = 1; calls <= 6; calls++) {
            x.setLevel(5000);
            Check.same("saved by " + calls, x.digest() - none, Math.min(4, calls));
        }
        due("four saved states", x, 0, 4);
        for (int left = 3; left >= 0; left--) {
            x.undo();
            Check.same("saved states", x.digest() - none, left);
        }
    }

    /** "for each pump"; "for each entry that is kept, from the latest one" */
    private static void pumpsAndLog() {
        for (int pumps = 0; pumps <= 6; pumps++) {
            due("pumps", Made.still(pumps), 0, 4);
        }
        for (int breaks : new int[] {0, 1, 2, 11, 12, 13}) {
            PumpOaths x = Made.still();
            x.addPump(1, 1);
            x.addPump(1, 2);
            for (int start = 0; start < 3 + breaks; start++) {
                Made.restart(x);
            }
            Check.same("entries", x.value(13), Math.min(12, breaks));
            due("a log of " + breaks, x, 0, 4);
        }
        due("a busy one", Made.busy(), 18, 4);
    }

    /** "nightLeak(), or 0 if no night was measured" */
    private static void negativeNight() {
        PumpOaths x = Made.still();
        x.setLevel(0);
        Made.passTo(x, 1800 - 1);
        due("a night that is not over", x, 0, 4);
        x.setLevel(777);
        x.pass(1);
        Check.same("nightLeak", x.nightLeak(), -777);
        due("a night that was filled by nobody", x, 0, 4);
        x.undo();
        due("a night that was undone", x, 0, 3);
    }

    /** Calls that change one value only: each of them changes the digest by its power of 31. */
    private static void eachValueCounts() {
        PumpOaths x = new PumpOaths();
        for (int call = 0; call < 4; call++) {
            x.setLevel(5000);
        }
        int values = seen(x, 0, 4).size();
        long before = x.digest();
        x.setLevel(5001);
        Check.same("the level", x.digest() - before, power(values - 3));
        x.setLevel(5000);
        x.set(2, 0);
        Check.same("force", x.digest() - before, -power(values - 1 - 15 - 2));
        x.set(2, 1);
        x.setDemand(23, 21);
        Check.same("the demand of the hour 23", x.digest() - before, power(values - 1 - 18 - 23));
        x.setDemand(23, 20);
        x.append('m');
        Check.same("the length of the text", x.digest() - before, power(values - 1));
    }

    private static long power(int exponent) {
        return FACTOR.pow(exponent).longValue();
    }
}
