/** Promises 11 to 17: what can be read. */
public final class ValuesTest {

    private static final int[] OUTSIDE = {-1, Integer.MIN_VALUE, Integer.MAX_VALUE};

    public static void main(String[] args) {
        pump();
        demand();
        value();
        setting();
        water();
        nightLeak();
        nightSeesCalls();
        nightGoesBackWithUndo();
        nightGoesBackByANight();
        entry();
        Check.close("ValuesTest");
    }

    private static void pump() {
        PumpOaths x = new PumpOaths();
        Check.refuses(x, "pump(0, 8) without pumps", Check.INDEX, () -> x.pump(0, 8));
        x.addPump(321, 7);
        x.addPump(9, 2);
        x.setLevel(3999);
        x.pass(3);
        int[] due = {321, 7, 1, 0, 1, 1, 3, 0};
        for (int what = 0; what < 8; what++) {
            Check.same("pump(0, " + what + ")", x.pump(0, what), due[what]);
        }
        Check.refuses(x, "pump(2, 0)", Check.INDEX, () -> x.pump(2, 0));
        Check.refuses(x, "pump(0, 8)", Check.ARGUMENT, () -> x.pump(0, 8));
        for (int wrong : OUTSIDE) {
            Check.refuses(x, "pump of no pump", Check.INDEX, () -> x.pump(wrong, wrong));
            Check.refuses(x, "pump of no what", Check.ARGUMENT, () -> x.pump(1, wrong));
        }
    }

    private static void demand() {
        PumpOaths x = new PumpOaths();
        x.setDemand(5, 55);
        Check.same("demand(5)", x.demand(5), 55);
        Check.same("demand(0)", x.demand(0), 20);
        Check.same("demand(23)", x.demand(23), 20);
        Check.refuses(x, "demand(24)", Check.INDEX, () -> x.demand(24));
        for (int wrong : OUTSIDE) {
            Check.refuses(x, "demand of no hour", Check.INDEX, () -> x.demand(wrong));
        }
    }

    private static void value() {
        PumpOaths x = new PumpOaths();
        x.setSize(20000);
        x.setBand(3000, 9000);
        x.addPump(10, 1);
        x.addPump(10, 1);
        x.addPump(10, 1);
        x.service(0, false);
        x.setLevel(2900);
        x.pass(1440);
        x.pass(61);
        // The level falls by 10 in a minute until it is below 2500 and the second pump starts.
        int[] due = {20000, 2490, 3000, 9000, 3, 2, 1, 1501, 1, 0, 1501, 0, 0, 0};
        for (int what = 0; what < 14; what++) {
            Check.same("value(" + what + ")", x.value(what), due[what]);
        }
        Check.refuses(x, "value(14)", Check.ARGUMENT, () -> x.value(14));
        for (int wrong : OUTSIDE) {
            Check.refuses(x, "value of no what", Check.ARGUMENT, () -> x.value(wrong));
        }
    }

    private static void setting() {
        PumpOaths x = new PumpOaths();
        x.set(0, 77);
        x.set(1, 88);
        x.set(2, 0);
        Check.same("setting(0)", x.setting(0), 77);
        Check.same("setting(1)", x.setting(1), 88);
        Check.same("setting(2)", x.setting(2), 0);
        Check.refuses(x, "setting(3)", Check.ARGUMENT, () -> x.setting(3));
        for (int wrong : OUTSIDE) {
            Check.refuses(x, "setting of no what", Check.ARGUMENT, () -> x.setting(wrong));
        }
    }

    private static void water() {
        PumpOaths x = new PumpOaths();
        x.set(1, 100);
        x.pass(60);
        // After 41 minutes 80 are left: 20 for the demand and 60 for the leak of one more.
        long[] due = {0, 0, 42 * 20, 18 * 20, 5000 - 42 * 20};
        for (int what = 0; what < 5; what++) {
            Check.same("water(" + what + ")", x.water(what), due[what]);
        }
        Check.refuses(x, "water(5)", Check.ARGUMENT, () -> x.water(5));
        for (int wrong : OUTSIDE) {
            Check.refuses(x, "water of no what", Check.ARGUMENT, () -> x.water(wrong));
        }

        PumpOaths y = new PumpOaths();
        for (int i = 0; i < 6; i++) {
            y.addPump(500, 12);
        }
        y.set(0, 1);
        y.setBand(9999, 10000);
        y.setDemand(0, 1000);
        for (int hour = 0; hour < 24; hour++) {
            y.setDemand(hour, 1000);
        }
        Texts.write(y, "m720;".repeat(20));
        for (int i = 0; i < 69; i++) {
            y.carryOut();
        }
        Check.same("what is pumped is what is kept, taken and overflowed",
                y.water(0), y.value(1) - 5000 + y.water(1) + y.water(2));
        Check.same("taken in 993600 minutes", y.water(2), 993600000L);
    }

    private static void nightLeak() {
        PumpOaths x = new PumpOaths();
        x.setSize(100000);
        x.setLevel(100000);
        x.set(1, 3);
        Check.refuses(x, "nightLeak before a night", Check.STATE, () -> x.nightLeak());
        x.pass(360);
        Check.same("the night of the time 0 is not whole", x.value(12), 0);
        x.pass(1440 - 1);
        Check.same("one minute is missing", x.value(12), 0);
        Check.refuses(x, "nightLeak in the night", Check.STATE, () -> x.nightLeak());
        x.pass(1);
        Check.same("measured", x.value(12), 1);
        Check.same("nightLeak()", x.nightLeak(), 480 * 3);
        x.set(1, 5);
        x.pass(1440);
        Check.same("measured", x.value(12), 2);
        Check.same("the latest one is kept", x.nightLeak(), 480 * 5);
        x.pass(960);
        x.set(1, 0);
        x.addPump(500, 12);
        x.setBand(99999, 100000);
        x.pass(480);
        Check.same("neither pumping nor overflow nor demand leaks", x.nightLeak(), 0);
    }

    private static void nightSeesCalls() {
        PumpOaths x = new PumpOaths();
        x.setSize(100000);
        x.pass(1320);
        x.setLevel(50000);
        x.pass(1);
        x.setLevel(50000);
        x.pass(478);
        x.setLevel(30000);
        x.pass(1);
        Check.same("a change within the night counts, one before it does not", x.nightLeak(),
                50000 - 20 - 50000 + (50000 - 478 * 20) - 30000);
        x.setLevel(1);
        x.pass(960);
        x.setLevel(0);
        x.pass(479);
        x.setLevel(12345);
        x.pass(1);
        Check.same("what was filled is a leak below 0", x.nightLeak(), -12345);
        x.setLevel(7);
        Check.same("a change after it does not count", x.nightLeak(), -12345);
    }

    private static void nightGoesBackWithUndo() {
        PumpOaths x = new PumpOaths();
        x.setSize(100000);
        x.setLevel(100000);
        x.pass(1400);
        x.set(1, 1);
        x.pass(400);
        Check.same("400 minutes with a leak", x.nightLeak(), 400);
        Check.same("undo", x.undo(), 3);
        Check.refuses(x, "nightLeak after an undo", Check.STATE, () -> x.nightLeak());
        Check.same("nights", x.value(12), 0);
        x.set(1, 2);
        x.pass(400);
        Check.same("the night began before the undone call", x.nightLeak(), 800);
        Check.same("nights", x.value(12), 1);
    }

    /** Goes back behind the beginning of a later night, and behind its end. */
    private static void nightGoesBackByANight() {
        PumpOaths x = new PumpOaths();
        x.setSize(100000);
        x.setLevel(100000);
        x.set(1, 1);
        x.pass(1400);
        x.pass(1440);
        x.undo();
        x.pass(400);
        Check.same("the earlier night is measured from its own beginning", x.nightLeak(), 480);
        x.pass(960);
        x.set(1, 2);
        x.pass(480);
        Check.same("the later night", x.nightLeak(), 960);
        x.undo();
        Check.same("the earlier night is the latest one again", x.nightLeak(), 480);
    }

    private static void entry() {
        PumpOaths x = new PumpOaths();
        Check.refuses(x, "entry(0, 3) of an empty log", Check.INDEX, () -> x.entry(0, 3));
        x.setBand(100, 101);
        x.setLevel(50);
        x.setDemand(0, 200);
        x.addPump(400, 1);
        // A start in every even minute; the first one keeps the oath.
        x.pass(24);
        Check.same("entries", x.value(13), 11);
        Check.same("the oldest", x.entry(10, 1), 2);
        Check.refuses(x, "entry(11, 0)", Check.INDEX, () -> x.entry(11, 0));
        x.pass(6);
        Check.same("no more than 12 are kept", x.value(13), 12);
        for (int index = 0; index < 12; index++) {
            Check.same("pump of " + index, x.entry(index, 0), 0);
            Check.same("minute of " + index, x.entry(index, 1), 28 - 2 * index);
            Check.same("starts of " + index, x.entry(index, 2), 15 - index);
        }
        Check.same("broken so far", x.value(9), 14);
        Check.refuses(x, "entry(12, 0)", Check.INDEX, () -> x.entry(12, 0));
        Check.refuses(x, "entry(0, 3)", Check.ARGUMENT, () -> x.entry(0, 3));
        for (int wrong : OUTSIDE) {
            Check.refuses(x, "entry of no index", Check.INDEX, () -> x.entry(wrong, wrong));
            Check.refuses(x, "entry of no what", Check.ARGUMENT, () -> x.entry(11, wrong));
        }
        x.undo();
        Check.same("the log goes back", x.value(13), 11);
        Check.same("the latest", x.entry(0, 1), 22);
    }
}
