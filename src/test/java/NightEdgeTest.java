/** The hour and the night at the turn of an hour and of a day, and the log of which the latest 12 entries are kept. */
public final class NightEdgeTest {

    private static final int DUSK = 22 * 60;
    private static final int DAWN = 30 * 60;
    private static final int DAY = 1440;

    public static void main(String[] args) {
        hourOfTheTime();
        demandOfTheHour();
        startsInThisHour();
        startsOfAllPumpsBeginAnew();
        oathInTheFirstMinuteOfAnHour();
        firstAndLastMinuteOfTheNight();
        nightsThatPassedFromFirstToLast();
        latestNightIsKept();
        whatIsNoLeak();
        changesByACall();
        levelAtTheBeginning();
        leakIsNotWhatIsLeftOfIt();
        questionsMeasureNothing();
        nightUnderUndo();
        logKeepsTwelve();
        logTellsMinuteAndStarts();
        Check.close("NightEdgeTest");
    }

    private static PumpOaths large() {
        PumpOaths x = new PumpOaths();
        x.setSize(100000);
        x.setLevel(100000);
        return x;
    }

    /** "Minute m belongs to the hour m / 60 % 24." */
    private static void hourOfTheTime() {
        int[] times = {0, 1, 59, 60, 61, 119, 120, 1319, 1320, 1379, 1380, 1439, 1440, 1499, 1500, 2879, 2880, 4319, 4320};
        int[] hours = {0, 0, 0, 1, 1, 1, 2, 21, 22, 22, 23, 23, 0, 0, 1, 23, 0, 23, 0};
        PumpOaths x = new PumpOaths();
        for (int i = 0; i < times.length; i++) {
            Made.passTo(x, times[i]);
            Check.same("time", x.value(7), times[i]);
            Check.same("hour of " + times[i], x.value(8), hours[i]);
        }
        Check.same("hour of the last full hour", Made.late(999959).value(8), 9);
        Check.same("hour of its end", Made.late(999960).value(8), 10);
    }

    private static void demandOfTheHour() {
        for (int time : new int[] {0, 59, 60, 359, 360, 1319, 1320, 1379, 1380, 1439, 1440, 1499, 1500}) {
            PumpOaths x = large();
            for (int hour = 0; hour < 24; hour++) {
                x.setDemand(hour, 1 + hour);
            }
            Made.passTo(x, time);
            long before = x.water(2);
            x.pass(1);
            Check.same("demand of the minute " + time, x.water(2) - before, 1 + time / 60 % 24);
        }
        PumpOaths x = large();
        for (int hour = 0; hour < 24; hour++) {
            x.setDemand(hour, hour);
        }
        x.pass(DAY);
        Check.same("a whole day", x.water(2), 60 * 23 * 24 / 2);
        x.pass(60);
        Check.same("the hour 0 of the next day", x.water(2), 60 * 23 * 24 / 2);
        x.pass(1);
        Check.same("the hour 1 of the next day", x.water(2), 60 * 23 * 24 / 2 + 1);
    }

    /** "If the minute is the first one of an hour, the starts in this hour become 0 for all pumps." */
    private static void startsInThisHour() {
        for (int turn : new int[] {60, 120, DUSK, DAY, DAY + 60, 2 * DAY}) {
            PumpOaths x = Made.still(1);
            Made.passTo(x, turn - 2);
            Check.same("on", Made.onAt(x, Made.LOW - 1), 1);
            Check.same("its start", x.pump(0, 4), 1);
            x.pass(1);
            Check.same("the time is in the next hour", x.value(7), turn);
            Check.same("until its first minute passes", x.pump(0, 4), 1);
            x.pass(1);
            Check.same("after the first minute of " + turn, x.pump(0, 4), 0);
            Check.same("starts so far", x.pump(0, 5), 1);
        }
    }

    private static void startsOfAllPumpsBeginAnew() {
        PumpOaths x = Made.still(6);
        x.set(0, 1);
        x.setLevel(0);
        x.pass(50);
        x.service(1, false);
        x.service(5, false);
        x.service(5, true);
        x.set(0, 5000);
        x.pass(10);
        for (int pump = 0; pump < 6; pump++) {
            Check.same("starts of " + pump, x.pump(pump, 4), 1);
        }
        x.pass(1);
        for (int pump = 0; pump < 6; pump++) {
            Check.same("starts of " + pump, x.pump(pump, 4), 0);
            Check.same("mode of " + pump, x.pump(pump, 2), pump == 1 ? 2 : pump == 5 ? 0 : 1);
        }
    }

    private static void oathInTheFirstMinuteOfAnHour() {
        for (int time = 58; time <= 61; time++) {
            PumpOaths x = Made.still();
            x.addPump(1, 1);
            Made.restart(x);
            Made.onAt(x, Made.HIGH);
            Made.passTo(x, time);
            x.setLevel(Made.LOW - 1);
            Check.same("broken in the minute " + time, x.pass(1), time < 60 ? 1 : 0);
            Check.same("starts in its hour", x.pump(0, 4), time < 60 ? 2 : 1);
        }
    }

    /** "Night is from the hour 22 to the hour 5, both included." */
    private static void firstAndLastMinuteOfTheNight() {
        for (int day = 0; day < 2; day++) {
            int[] minutes = {DUSK - 1, DUSK, DUSK + 1, DAY - 1, DAY, DAY + 1, DAWN - 2, DAWN - 1, DAWN};
            for (int minute : minutes) {
                PumpOaths x = large();
                Made.passTo(x, day * DAY + minute);
                x.set(1, 7);
                x.pass(1);
                x.set(1, 0);
                Made.passTo(x, day * DAY + DAWN);
                boolean isNight = minute >= DUSK && minute < DAWN;
                Check.same("leak of the minute " + minute + " of the day " + day, x.nightLeak(), isNight ? 7 : 0);
            }
        }
    }

    /** "For each night that has passed from its first to its last minute since the machine was created" */
    private static void nightsThatPassedFromFirstToLast() {
        int[] times = {0, 359, 360, 361, DUSK, DAY, DAWN - 1, DAWN, DAWN + 1, DAY + DUSK, DAY + DAWN - 1, DAY + DAWN};
        int[] nights = {0, 0, 0, 0, 0, 0, 0, 1, 1, 1, 1, 2};
        PumpOaths x = new PumpOaths();
        for (int i = 0; i < times.length; i++) {
            Made.passTo(x, times[i]);
            Check.same("nights at " + times[i], x.value(12), nights[i]);
            if (nights[i] == 0) {
                Check.refuses(x, "nightLeak at " + times[i], Check.STATE, x::nightLeak);
            } else {
                Check.same("no leak at " + times[i], x.nightLeak(), 0);
            }
        }
        PumpOaths y = new PumpOaths();
        for (int minute = 0; minute < 12; minute++) {
            y.pass(150);
        }
        Check.same("one that passed in several calls", y.value(12), 1);
        PumpOaths z = new PumpOaths();
        Check.same("two that passed in one call", Texts.carryOut(z, "m720;m720;m720;m720;m720;"), 5);
        Check.same("nights of 3600 minutes", z.value(12), 2);
    }

    /** "The latest one is kept." */
    private static void latestNightIsKept() {
        PumpOaths x = large();
        for (int night = 1; night <= 3; night++) {
            x.set(1, night);
            Made.passTo(x, (night - 1) * DAY + DAWN - 1);
            if (night > 1) {
                Check.same("until the last minute of the next one", x.nightLeak(), 480 * (night - 1));
            }
            x.pass(1);
            Check.same("the night " + night, x.nightLeak(), 480 * night);
            x.setLevel(100000);
        }
    }

    /** "pumped in it, minus what overflowed in it, minus what the demand took in it" */
    private static void whatIsNoLeak() {
        PumpOaths x = large();
        x.setBand(99999, 100000);
        x.addPump(500, 12);
        x.addPump(500, 12);
        x.set(1, 3);
        x.pass(DUSK);
        Check.holds("it overflowed before", x.water(1) > 0);
        long[] before = {x.water(0), x.water(1), x.water(2)};
        x.pass(480);
        for (int what = 0; what < 3; what++) {
            Check.holds("water moved in the night: " + what, x.water(what) > before[what]);
        }
        Check.same("only the leak", x.nightLeak(), 480 * 3);

        PumpOaths y = new PumpOaths();
        y.setLevel(0);
        Made.passTo(y, DAWN);
        Check.same("what is lacking is no leak", y.nightLeak(), 0);
        Check.same("lacking", y.water(3), DAWN * 20);
    }

    /** "(A change of the level by a call counts as if it had leaked or been filled by nobody.)" */
    private static void changesByACall() {
        for (int time : new int[] {DUSK - 1, DUSK, DUSK + 1, DAY, DAWN - 1, DAWN}) {
            boolean isWithin = time > DUSK && time < DAWN;
            for (int change : new int[] {-700, 900}) {
                PumpOaths x = Made.still();
                Made.passTo(x, time);
                x.setLevel(5000 + change);
                Made.passTo(x, DAWN);
                Check.same("a change at " + time, x.nightLeak(), isWithin ? -change : 0);
            }
        }
        PumpOaths x = Made.still();
        Made.passTo(x, DUSK + 1);
        x.setLevel(0);
        x.setLevel(9000);
        x.setLevel(5000);
        Made.passTo(x, DAWN);
        Check.same("there and back", x.nightLeak(), 0);
    }

    /** "plus the level at its beginning, as its first minute begins to pass" */
    private static void levelAtTheBeginning() {
        PumpOaths x = new PumpOaths();
        x.pass(DUSK);
        Check.same("the tank is empty", x.value(1), 0);
        x.setLevel(7777);
        Check.same("orders", Texts.carryOut(x, "d22=0;d23=0;d00=0;d01=0;d02=0;d03=0;d04=0;d05=0;m480;"), 9);
        Check.same("the level that was set before its first minute", x.nightLeak(), 0);
        Check.same("the level", x.value(1), 7777);
    }

    private static void leakIsNotWhatIsLeftOfIt() {
        PumpOaths x = Made.still();
        x.set(1, 100);
        Made.passTo(x, DUSK);
        x.setLevel(250);
        Made.passTo(x, DAWN);
        Check.same("a leak takes no more than there is", x.nightLeak(), 250);
    }

    private static void questionsMeasureNothing() {
        PumpOaths x = large();
        x.set(1, 1);
        x.pass(DUSK + 100);
        x.levelIn(1440);
        x.emptyIn();
        x.nextStart();
        x.oathFor(1440);
        Check.same("nights", x.value(12), 0);
        Check.refuses(x, "nightLeak after questions", Check.STATE, x::nightLeak);
        x.pass(380);
        Check.same("measured from its own beginning", x.nightLeak(), 480);
        x.levelIn(1440);
        Check.same("nights", x.value(12), 1);
    }

    /** The saved state contains the night that it is in. */
    private static void nightUnderUndo() {
        PumpOaths x = large();
        x.set(1, 1);
        x.pass(DUSK + 60);
        x.pass(1420);
        Check.same("the next night has begun", x.value(7), DAY + DUSK + 40);
        Check.same("the first one was measured", x.nightLeak(), 480);
        x.undo();
        Check.refuses(x, "nightLeak, undone", Check.STATE, x::nightLeak);
        x.set(1, 0);
        x.pass(420);
        Check.same("the night as it was when it was saved", x.nightLeak(), 60);
    }

    private static PumpOaths breaking(int breaks) {
        PumpOaths x = Made.still();
        x.addPump(1, 12);
        x.addPump(1, 1);
        x.service(0, false);
        Made.restart(x);
        for (int i = 0; i < breaks; i++) {
            Check.same("broken", Made.restart(x), 1);
        }
        return x;
    }

    /** "Each broken oath is put into a log; the latest 12 entries are kept." */
    private static void logKeepsTwelve() {
        for (int breaks : new int[] {0, 1, 11, 12, 13, 25}) {
            PumpOaths x = breaking(breaks);
            int kept = Math.min(12, breaks);
            Check.same("broken so far", x.value(9), breaks);
            Check.same("kept of " + breaks, x.value(13), kept);
            for (int index = 0; index < kept; index++) {
                Check.same("pump of the entry " + index, x.entry(index, 0), 1);
                Check.same("minute of the entry " + index, x.entry(index, 1), 1 + 2 * (breaks - index));
                Check.same("starts of the entry " + index, x.entry(index, 2), 1 + breaks - index);
            }
            Check.refuses(x, "one entry too many", Check.INDEX, () -> x.entry(kept, 0));
        }
    }

    /** "the minute in which it broke its oath, that is the time before it passed; its starts in the hour, with this one" */
    private static void logTellsMinuteAndStarts() {
        PumpOaths x = Made.still();
        for (int pump = 0; pump < 6; pump++) {
            x.addPump(1, 1);
        }
        x.set(0, 1);
        x.setLevel(0);
        x.pass(6);
        Made.onAt(x, Made.HIGH);
        Made.passTo(x, 20);
        x.setLevel(0);
        Check.same("six break their oaths", x.pass(10), 6);
        for (int index = 0; index < 6; index++) {
            Check.same("pump", x.entry(index, 0), (6 - index) % 6);
            Check.same("minute", x.entry(index, 1), 25 - index);
            Check.same("starts", x.entry(index, 2), 2);
        }
        Made.passTo(x, 60);
        x.service(3, false);
        x.service(3, true);
        Check.same("a new hour, a new oath", x.pass(1), 0);
        x.service(3, false);
        x.service(3, true);
        Check.same("the second minute of the hour", x.pass(1), 1);
        Check.same("pump", x.entry(0, 0), 3);
        Check.same("minute", x.entry(0, 1), 61);
        Check.same("starts in its own hour", x.entry(0, 2), 2);
        Check.same("the entry before", x.entry(1, 0), 0);
    }
}
