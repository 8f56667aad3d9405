/** Promises 27 and 28: undo and digest. */
public final class StateTest {

    public static void main(String[] args) {
        undo();
        undoBringsEverythingBack();
        undoAfterUndo();
        digestOfANewObject();
        digestSeesEverything();
        Check.close("StateTest");
    }

    private static void undo() {
        PumpOaths x = new PumpOaths();
        Check.refuses(x, "undo()", Check.STATE, () -> x.undo());
        for (int level = 1; level <= 6; level++) {
            x.setLevel(level);
        }
        for (int left = 3; left >= 0; left--) {
            Check.same("undo()", x.undo(), left);
            Check.same("level", x.value(1), left + 2);
        }
        Check.refuses(x, "the oldest ones are dropped", Check.STATE, () -> x.undo());
        x.setLevel(2);
        Check.same("a call that changes nothing is saved, too", x.undo(), 0);
    }

    private static void undoBringsEverythingBack() {
        PumpOaths x = new PumpOaths();
        x.addPump(400, 1);
        x.addPump(30, 2);
        x.setBand(100, 101);
        x.setLevel(50);
        x.setDemand(0, 200);
        x.pass(1000);
        long before = x.digest();
        Check.same("orders", Texts.carryOut(x, "m720;x0;o1=9;d13=5;m720;m720;"), 6);
        x.set(0, 1);
        x.setSize(200);
        x.service(1, false);
        Check.same("undo", x.undo(), 3);
        Check.same("undo", x.undo(), 2);
        Check.same("undo", x.undo(), 1);
        Check.same("undo", x.undo(), 0);
        x.clearText();
        // Four states were saved before; the saved ones count in the digest.
        Check.same("all but the saved states", x.digest(), before - 4);
    }

    private static void undoAfterUndo() {
        PumpOaths x = new PumpOaths();
        x.setLevel(1);
        x.setLevel(2);
        x.setLevel(3);
        x.undo();
        x.setLevel(4);
        Check.same("undo", x.undo(), 2);
        Check.same("level", x.value(1), 2);
        Check.same("undo", x.undo(), 1);
        Check.same("level", x.value(1), 1);
        Check.same("undo", x.undo(), 0);
        Check.same("level", x.value(1), 5000);
    }

    private static long hash(PumpOaths x, int textLength, int saved) {
        long h = 31L * 3673 + textLength;
        for (int what = 0; what < 14; what++) {
            h = 31 * h + x.value(what);
        }
        for (int what = 0; what < 3; what++) {
            h = 31 * h + x.setting(what);
        }
        for (int hour = 0; hour < 24; hour++) {
            h = 31 * h + x.demand(hour);
        }
        for (int what = 0; what < 5; what++) {
            h = 31 * h + x.water(what);
        }
        h = 31 * h + (x.value(12) > 0 ? x.nightLeak() : 0);
        for (int i = 0; i < 8 * x.value(4); i++) {
            h = 31 * h + x.pump(i / 8, i % 8);
        }
        for (int i = 0; i < 3 * x.value(13); i++) {
            h = 31 * h + x.entry(i / 3, i % 3);
        }
        return 31 * h + saved;
    }

    private static void digestOfANewObject() {
        PumpOaths x = new PumpOaths();
        Check.same("digest()", x.digest(), hash(x, 0, 0));
        Texts.write(x, "m1;");
        Check.same("digest()", x.digest(), hash(x, 3, 0));
    }

    private static void digestSeesEverything() {
        PumpOaths x = new PumpOaths();
        x.addPump(400, 1);
        x.addPump(30, 2);
        Check.same("digest()", x.digest(), hash(x, 0, 2));
        x.setBand(100, 101);
        x.setLevel(50);
        x.setDemand(0, 200);
        x.set(1, 7);
        x.pass(1440);
        x.pass(1440);
        Check.holds("a night was measured", x.nightLeak() != 0);
        Check.same("the log is full", x.value(13), 12);
        Check.same("digest()", x.digest(), hash(x, 0, 4));
    }
}
