import java.util.function.Supplier;

/** Each range of an argument: its ends are taken and do what is due, what lies beside them is refused. */
public final class RangeEdgeTest {

    private static final int HUGE = Made.HUGE;
    private static final int TINY = Made.TINY;

    interface Giving {
        long give(PumpOaths x, int value);
    }

    public static void main(String[] args) {
        sizes();
        sizeUnderLevelOrBand();
        lowLevels();
        highLevels();
        levels();
        settings();
        hoursOfADemand();
        demands();
        capacitiesAndOaths();
        sixPumps();
        numbersOfPumps();
        sworn();
        serviceThatIsSoAlready();
        minutesToPass();
        greatestTime();
        whatOfAPump();
        whatOfAValue();
        hoursToAskFor();
        indexOfAnEntry();
        minutesOfQuestions();
        bytes();
        calls();
        Check.close("RangeEdgeTest");
    }

    private static Supplier<PumpOaths> pumps(int count) {
        return () -> {
            PumpOaths x = new PumpOaths();
            Made.addPumps(x, count, 10, 5);
            return x;
        };
    }

    private static void takes(String call, Supplier<PumpOaths> made, Giving giving, Giving reading, int... values) {
        for (int value : values) {
            PumpOaths x = made.get();
            String got = Check.answer(() -> giving.give(x, value));
            Check.holds(call + " takes " + value + " and not " + got, !got.startsWith("throws"));
            Check.same(call + " of " + value + " stands", reading.give(x, value), value);
        }
    }

    private static void answers(String call, Supplier<PumpOaths> made, Giving giving, int... values) {
        for (int value : values) {
            PumpOaths x = made.get();
            String got = Check.answer(() -> giving.give(x, value));
            Check.holds(call + " takes " + value + " and not " + got, !got.startsWith("throws"));
        }
    }

    private static void refuses(String call, Supplier<PumpOaths> made, Class<? extends RuntimeException> due,
            Giving giving, int... values) {
        for (int value : values) {
            PumpOaths x = made.get();
            Check.refuses(x, call + " of " + value, due, () -> giving.give(x, value));
        }
    }

    private static PumpOaths small() {
        PumpOaths x = new PumpOaths();
        x.setBand(1, 2);
        x.setLevel(0);
        return x;
    }

    private static void sizes() {
        Giving size = (x, value) -> x.setSize(value);
        takes("setSize", RangeEdgeTest::small, size, (x, value) -> x.value(0), 100, 101, 99999, 100000);
        refuses("setSize", RangeEdgeTest::small, Check.ARGUMENT, size, 99, 100001, 0, -1, -100, HUGE, TINY);
        Check.same("setSize answers the size before", small().setSize(100), 10000);
    }

    /** "if the level or the high level of the band is greater than size" */
    private static void sizeUnderLevelOrBand() {
        PumpOaths x = small();
        x.setLevel(7000);
        Check.refuses(x, "setSize one below the level", Check.STATE, () -> x.setSize(6999));
        Check.same("setSize at the level", x.setSize(7000), 10000);
        PumpOaths y = small();
        y.setBand(1, 7000);
        Check.refuses(y, "setSize one below the high level", Check.STATE, () -> y.setSize(6999));
        Check.same("setSize at the high level", y.setSize(7000), 10000);
        PumpOaths z = small();
        z.setBand(100, 101);
        Check.refuses(z, "the least size below the high level", Check.STATE, () -> z.setSize(100));
        z.setBand(99, 100);
        z.setLevel(101);
        Check.refuses(z, "the least size below the level", Check.STATE, () -> z.setSize(100));
        z.setLevel(100);
        Check.same("the least size at both", z.setSize(100), 10000);
    }

    /** "low is at least 1" */
    private static void lowLevels() {
        Giving low = (x, value) -> x.setBand(value, 9000);
        takes("setBand", PumpOaths::new, low, (x, value) -> x.value(2), 1, 2, 8998, 8999);
        refuses("setBand", PumpOaths::new, Check.ARGUMENT, low, 0, -1, TINY, 9000, 9001, HUGE);
        Check.same("setBand answers the distance before", new PumpOaths().setBand(1, 10000), 4000);
        PumpOaths x = new PumpOaths();
        x.setBand(1, 10000);
        Check.same("the greatest distance of this size", x.setBand(7, 8), 9999);
        Check.same("the least distance", x.setBand(9999, 10000), 1);
    }

    /** "high is greater than low and at most the size" */
    private static void highLevels() {
        Giving high = (x, value) -> x.setBand(6000, value);
        takes("setBand", PumpOaths::new, high, (x, value) -> x.value(3), 6001, 6002, 9999, 10000);
        refuses("setBand", PumpOaths::new, Check.ARGUMENT, high, 6000, 5999, 0, -1, TINY);
        refuses("setBand", PumpOaths::new, Check.STATE, high, 10001, 100000, HUGE);
        PumpOaths x = new PumpOaths();
        x.setSize(100000);
        Check.refuses(x, "setBand above the greatest size", Check.STATE, () -> x.setBand(99999, 100001));
        x.setBand(99999, 100000);
        Check.same("low", x.value(2), 99999);
        Check.same("high", x.value(3), 100000);
    }

    private static void levels() {
        Giving level = (x, value) -> x.setLevel(value);
        takes("setLevel", PumpOaths::new, level, (x, value) -> x.value(1), 0, 1, 9999, 10000);
        refuses("setLevel", PumpOaths::new, Check.ARGUMENT, level, -1, -2, TINY);
        refuses("setLevel", PumpOaths::new, Check.STATE, level, 10001, 100000, HUGE);
        PumpOaths x = new PumpOaths();
        x.setSize(8000);
        Check.refuses(x, "setLevel above a smaller size", Check.STATE, () -> x.setLevel(8001));
        Check.same("setLevel at a smaller size", x.setLevel(8000), 5000);
    }

    /** "0 the step between stages (500; 1 to 5000), 1 the leak in a minute (0; 0 to 100), 2 force (1; 0 or 1)" */
    private static void settings() {
        int[] first = {500, 0, 1};
        int[] least = {1, 0, 0};
        int[] greatest = {5000, 100, 1};
        for (int i = 0; i < 3; i++) {
            int what = i;
            Giving setting = (x, value) -> x.set(what, value);
            Check.same("first value", new PumpOaths().setting(what), first[what]);
            Check.same("set answers it", new PumpOaths().set(what, greatest[what]), first[what]);
            takes("set " + what, PumpOaths::new, setting, (x, value) -> x.setting(what), least[what], greatest[what]);
            refuses("set " + what, PumpOaths::new, Check.ARGUMENT, setting,
                    least[what] - 1, greatest[what] + 1, TINY, HUGE);
        }
        refuses("set of no setting", PumpOaths::new, Check.ARGUMENT, (x, what) -> x.set(what, 1), -1, 3, 4, TINY, HUGE);
        answers("setting", PumpOaths::new, (x, what) -> x.setting(what), 0, 1, 2);
        refuses("setting", PumpOaths::new, Check.ARGUMENT, (x, what) -> x.setting(what), -1, 3, TINY, HUGE);
    }

    private static void hoursOfADemand() {
        Giving hour = (x, value) -> x.setDemand(value, 77);
        for (int i = 0; i < 24; i++) {
            PumpOaths x = new PumpOaths();
            Check.same("the demand before", x.setDemand(i, 77), 20);
            for (int other = 0; other < 24; other++) {
                Check.same("the demand of " + other, x.demand(other), other == i ? 77 : 20);
            }
        }
        refuses("setDemand", PumpOaths::new, Check.INDEX, hour, -1, 24, 25, TINY, HUGE);
    }

    private static void demands() {
        Giving demand = (x, value) -> x.setDemand(23, value);
        takes("setDemand", PumpOaths::new, demand, (x, value) -> x.demand(23), 0, 1, 999, 1000);
        refuses("setDemand", PumpOaths::new, Check.ARGUMENT, demand, -1, 1001, TINY, HUGE);
    }

    /** "each with a capacity in a minute, 1 to 500, and an oath: ... 1 to 12" */
    private static void capacitiesAndOaths() {
        Giving capacity = (x, value) -> x.addPump(value, 3);
        Giving oath = (x, value) -> x.addPump(7, value);
        takes("addPump", PumpOaths::new, capacity, (x, value) -> x.pump(0, 0), 1, 2, 499, 500);
        refuses("addPump", PumpOaths::new, Check.ARGUMENT, capacity, 0, -1, 501, TINY, HUGE);
        takes("addPump", PumpOaths::new, oath, (x, value) -> x.pump(0, 1), 1, 2, 11, 12);
        refuses("addPump", PumpOaths::new, Check.ARGUMENT, oath, 0, -1, 13, TINY, HUGE);
    }

    /** "There are at most 6, numbered from 0"; "at first it is off"; "a new one comes last"; "The first one is the lead." */
    private static void sixPumps() {
        PumpOaths x = new PumpOaths();
        Check.same("without pumps there is no lead", x.value(11), PumpOaths.NONE);
        for (int pump = 0; pump < 6; pump++) {
            Check.same("pumps", x.value(4), pump);
            Check.same("addPump", x.addPump(100 + pump, 1 + pump), pump);
            int[] due = {100 + pump, 1 + pump, 0, pump, 0, 0, 0, 0};
            for (int what = 0; what < 8; what++) {
                Check.same("pump(" + pump + ", " + what + ")", x.pump(pump, what), due[what]);
            }
            Check.same("the lead", x.value(11), 0);
        }
        Check.refuses(x, "a seventh pump", Check.STATE, () -> x.addPump(1, 1));
        Check.same("pumps", x.value(4), 6);

        PumpOaths y = Made.still(2);
        Made.restart(y);
        Made.onAt(y, Made.HIGH);
        Check.same("the lead has gone on", y.value(11), 1);
        Check.same("a new pump", y.addPump(5, 5), 2);
        Check.same("comes last", y.pump(2, 3), 2);
        Check.same("behind the one that was the lead", y.pump(0, 3), 1);
        Check.same("the lead stays", y.value(11), 1);
    }

    private static void numbersOfPumps() {
        for (int count = 0; count <= 6; count++) {
            Supplier<PumpOaths> made = pumps(count);
            int[] none = {count, count + 1, -1, 6, TINY, HUGE};
            refuses("pump", made, Check.INDEX, (x, pump) -> x.pump(pump, 0), none);
            refuses("swear", made, Check.INDEX, (x, pump) -> x.swear(pump, 1), none);
            refuses("service", made, Check.INDEX, (x, pump) -> x.service(pump, false) ? 1 : 0, none);
            refuses("startsIn", made, Check.INDEX, (x, pump) -> x.startsIn(pump, 1), none);
            if (count > 0) {
                int[] some = {0, count - 1};
                answers("pump", made, (x, pump) -> x.pump(pump, 0), some);
                answers("swear", made, (x, pump) -> x.swear(pump, 1), some);
                answers("service", made, (x, pump) -> x.service(pump, false) ? 1 : 0, some);
                answers("startsIn", made, (x, pump) -> x.startsIn(pump, 1), some);
            }
        }
    }

    private static void sworn() {
        for (int i = 0; i < 6; i++) {
            int pump = i;
            Giving oath = (x, value) -> x.swear(pump, value);
            Check.same("swear answers the oath before", pumps(6).get().swear(pump, 12), 5);
            takes("swear", pumps(6), oath, (x, value) -> x.pump(pump, 1), 1, 2, 11, 12);
            refuses("swear", pumps(6), Check.ARGUMENT, oath, 0, -1, 13, TINY, HUGE);
        }
        PumpOaths x = pumps(6).get();
        x.swear(5, 1);
        for (int pump = 0; pump < 5; pump++) {
            Check.same("the oath of another pump", x.pump(pump, 1), 5);
        }
    }

    /** "if it is so already"; "brings it back, then it is off"; "Returns whether it was on before." */
    private static void serviceThatIsSoAlready() {
        PumpOaths x = Made.still(6);
        x.set(0, 1);
        x.setLevel(0);
        x.pass(3);
        for (int i = 0; i < 6; i++) {
            int pump = i;
            int starts = pump < 3 ? 1 : 0;
            Check.refuses(x, "service of one in service", Check.STATE, () -> x.service(pump, true));
            Check.holds("was it on? " + pump, x.service(pump, false) == pump < 3);
            Check.same("it is out", x.pump(pump, 2), 2);
            Check.same("those out of service", x.value(6), 1);
            Check.refuses(x, "service of one out of service", Check.STATE, () -> x.service(pump, false));
            Check.holds("one out of service was not on", !x.service(pump, true));
            Check.same("it is off", x.pump(pump, 2), 0);
            Check.same("those out of service", x.value(6), 0);
            Check.same("its place", x.pump(pump, 3), pump);
            Check.same("its starts in this hour", x.pump(pump, 4), starts);
            Check.same("its starts so far", x.pump(pump, 5), starts);
        }
        Check.same("those that are on", x.value(5), 0);
    }

    private static void minutesToPass() {
        Giving minutes = (x, value) -> x.pass(value);
        takes("pass", PumpOaths::new, minutes, (x, value) -> x.value(7), 1, 2, 1439, 1440);
        refuses("pass", PumpOaths::new, Check.ARGUMENT, minutes, 0, -1, 1441, TINY, HUGE);
    }

    /** "if the time would be greater than 1000000" */
    private static void greatestTime() {
        PumpOaths x = Made.late(999999);
        Check.refuses(x, "pass(2) at 999999", Check.STATE, () -> x.pass(2));
        Check.refuses(x, "pass(1440) at 999999", Check.STATE, () -> x.pass(1440));
        Check.refuses(x, "pass(1441) at 999999", Check.ARGUMENT, () -> x.pass(1441));
        Check.refuses(x, "pass(0) at 999999", Check.ARGUMENT, () -> x.pass(0));
        Check.same("pass(1) at 999999", x.pass(1), 0);
        Check.same("the greatest time", x.value(7), 1000000);
        Check.refuses(x, "pass(1) at 1000000", Check.STATE, () -> x.pass(1));
        Check.same("its hour", x.value(8), 10);
        Check.same("nights", x.value(12), 694);
        Check.same("minutes below", x.value(10), 1000000 - 50);
        PumpOaths y = Made.late(1000000 - 1440);
        Check.refuses(y, "pass(1441), a day before the end", Check.ARGUMENT, () -> y.pass(1441));
        Check.same("pass(1440), a day before the end", y.pass(1440), 0);
        Check.same("the greatest time", y.value(7), 1000000);
        PumpOaths z = Made.late(1000000 - 1439);
        Check.refuses(z, "pass(1440), less than a day before the end", Check.STATE, () -> z.pass(1440));
        Check.same("the time", z.value(7), 1000000 - 1439);
    }

    private static void whatOfAPump() {
        Giving what = (x, value) -> x.pump(5, value);
        answers("pump", pumps(6), what, 0, 1, 2, 3, 4, 5, 6, 7);
        refuses("pump", pumps(6), Check.ARGUMENT, what, -1, 8, 9, TINY, HUGE);
    }

    private static void whatOfAValue() {
        int[] whats = {0, 1, 2, 3, 4, 5, 6, 7, 8, 9, 10, 11, 12, 13};
        answers("value", PumpOaths::new, (x, what) -> x.value(what), whats);
        refuses("value", PumpOaths::new, Check.ARGUMENT, (x, what) -> x.value(what), -1, 14, 15, TINY, HUGE);
        answers("water", PumpOaths::new, (x, what) -> x.water(what), 0, 1, 2, 3, 4);
        refuses("water", PumpOaths::new, Check.ARGUMENT, (x, what) -> x.water(what), -1, 5, 6, TINY, HUGE);
    }

    private static void hoursToAskFor() {
        takes("demand", PumpOaths::new, (x, hour) -> x.demand(hour), (x, hour) -> x.demand(hour) == 20 ? hour : -1,
                0, 1, 22, 23);
        refuses("demand", PumpOaths::new, Check.INDEX, (x, hour) -> x.demand(hour), -1, 24, 25, TINY, HUGE);
    }

    private static PumpOaths broken(int breaks) {
        PumpOaths x = Made.still();
        x.addPump(1, 1);
        for (int start = 0; start <= breaks; start++) {
            Made.restart(x);
        }
        return x;
    }

    /** "if not so many are kept" */
    private static void indexOfAnEntry() {
        for (int breaks : new int[] {0, 1, 2, 11, 12, 13}) {
            int kept = Math.min(12, breaks);
            Supplier<PumpOaths> made = () -> broken(breaks);
            refuses("entry", made, Check.INDEX, (x, index) -> x.entry(index, 0), kept, kept + 1, -1, 12, TINY, HUGE);
            refuses("entry", made, Check.INDEX, (x, index) -> x.entry(index, 3), kept, -1);
            if (kept > 0) {
                answers("entry", made, (x, index) -> x.entry(index, 2), 0, kept - 1);
                answers("entry", made, (x, what) -> x.entry(kept - 1, what), 0, 1, 2);
                refuses("entry", made, Check.ARGUMENT, (x, what) -> x.entry(kept - 1, what), -1, 3, TINY, HUGE);
            }
        }
    }

    private static void minutesOfQuestions() {
        int[] beside = {-1, 1441, TINY, HUGE};
        answers("levelIn", pumps(1), (x, minutes) -> x.levelIn(minutes), 0, 1, 1439, 1440);
        refuses("levelIn", pumps(1), Check.ARGUMENT, (x, minutes) -> x.levelIn(minutes), beside);
        answers("startsIn", pumps(1), (x, minutes) -> x.startsIn(0, minutes), 0, 1, 1439, 1440);
        refuses("startsIn", pumps(1), Check.ARGUMENT, (x, minutes) -> x.startsIn(0, minutes), beside);
        answers("oathFor", pumps(1), (x, minutes) -> x.oathFor(minutes), 1, 2, 1439, 1440);
        refuses("oathFor", pumps(1), Check.ARGUMENT, (x, minutes) -> x.oathFor(minutes), beside);
        refuses("oathFor", pumps(1), Check.ARGUMENT, (x, minutes) -> x.oathFor(minutes), 0);
    }

    private static void bytes() {
        Giving value = (x, b) -> x.append(b);
        answers("append", PumpOaths::new, value, 0, 1, 126, 127);
        refuses("append", PumpOaths::new, Check.ARGUMENT, value, -1, 128, 255, TINY, HUGE);
    }

    /** "An object is used for at most 512 calls after it has been made": the last of them still answers rightly. */
    private static void calls() {
        PumpOaths x = new PumpOaths();
        for (int call = 1; call <= 508; call++) {
            Check.same("call " + call, x.setLevel(call), call == 1 ? 5000 : call - 1);
        }
        for (int left = 3; left >= 0; left--) {
            Check.same("call " + (512 - left), x.undo(), left);
        }
        PumpOaths y = new PumpOaths();
        for (int call = 1; call <= 511; call++) {
            y.pass(1440);
        }
        Check.same("the 512th call", y.value(7), 511 * 1440);
    }
}
