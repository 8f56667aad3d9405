import java.util.function.Supplier;

/** The what-if questions at the ends of their minutes, where there is nothing to tell, and beyond the greatest time. */
public final class QuestionEdgeTest {

    private static final int LOW = Made.LOW;

    public static void main(String[] args) {
        levelInNoMinutes();
        levelInADay();
        startsInNoMinutes();
        startsOfSixPumps();
        oathOfEachNumberOfStarts();
        oathOfSixPumps();
        oathOfPumpsAlike();
        oathCountsThisHour();
        oathAtTheTurnOfAnHour();
        oathWithoutStarts();
        emptyNow();
        emptyInTheLastMinute();
        emptyWithoutPumps();
        emptyAtTheTurnOfADay();
        nextStartInTheLastMinute();
        nextStartOfEachPump();
        noNextStart();
        beyondTheGreatestTime();
        honestyWithoutStarts();
        honestyOfStarts();
        questionsChangeNothing();
        Check.close("QuestionEdgeTest");
    }

    private static void levelInNoMinutes() {
        PumpOaths x = new PumpOaths();
        for (int level : new int[] {0, 1, 9999, 10000}) {
            x.setLevel(level);
            Check.same("levelIn(0)", x.levelIn(0), level);
            Check.same("levelIn(1)", x.levelIn(1), Math.max(0, level - 20));
        }
    }

    private static void levelInADay() {
        for (int minutes : new int[] {0, 1, 59, 60, 61, 1439, 1440}) {
            PumpOaths x = Made.busy();
            int due = x.levelIn(minutes);
            if (minutes > 0) {
                x.pass(minutes);
            }
            Check.same("the level in " + minutes, x.value(1), due);
        }
        PumpOaths x = Made.still();
        x.set(1, 1);
        Check.same("levelIn(1439)", x.levelIn(1439), 5000 - 1439);
        Check.same("levelIn(1440)", x.levelIn(1440), 5000 - 1440);
    }

    private static void startsInNoMinutes() {
        PumpOaths x = Made.still(2);
        x.setLevel(LOW - 1);
        Check.same("startsIn(0, 0)", x.startsIn(0, 0), 0);
        Check.same("startsIn(0, 1)", x.startsIn(0, 1), 1);
        Check.same("startsIn(1, 1)", x.startsIn(1, 1), 0);
        x.setLevel(LOW);
        Check.same("startsIn(0, 1440) in the band", x.startsIn(0, 1440), 0);
        Made.restart(x);
        x.service(0, false);
        x.setLevel(LOW - 1);
        Check.same("starts before do not count", x.startsIn(0, 1440), 0);
        Check.same("the other one starts", x.startsIn(1, 1440), 1);
    }

    private static void startsOfSixPumps() {
        PumpOaths x = Made.still(6);
        x.set(0, 1);
        x.setLevel(0);
        for (int pump = 0; pump < 6; pump++) {
            Check.same("not yet", x.startsIn(pump, pump), 0);
            Check.same("in the minute " + pump, x.startsIn(pump, pump + 1), 1);
        }
        for (int minutes : new int[] {1, 60, 1439, 1440}) {
            for (int i = 0; i < 6; i++) {
                PumpOaths y = Made.busy();
                int due = y.startsIn(i, minutes);
                int before = y.pump(i, 5);
                y.pass(minutes);
                Check.same("starts of " + i + " in " + minutes, y.pump(i, 5) - before, due);
            }
        }
    }

    /** A start in every even minute of the first hour: the level goes 50, 250, 50. */
    private static PumpOaths switching(int pumps) {
        PumpOaths x = new PumpOaths();
        x.setBand(100, 101);
        x.setLevel(50);
        x.setDemand(0, 200);
        Made.addPumps(x, pumps, 400, 3);
        return x;
    }

    /** "the oath, 1 to 12; NONE if none suffices" */
    private static void oathOfEachNumberOfStarts() {
        for (int starts = 1; starts <= 14; starts++) {
            int due = starts <= 12 ? starts : PumpOaths.NONE;
            PumpOaths x = switching(1);
            Check.same("the minute of the start " + starts, x.oathFor(2 * starts - 1), due);
            Check.same("the minute after it", x.oathFor(2 * starts), due);
            x.swear(0, Math.min(12, starts));
            Check.same("it would break none", x.pass(2 * starts), Math.max(0, starts - 12));
            PumpOaths y = switching(1);
            y.swear(0, Math.max(1, Math.min(12, starts - 1)));
            Check.same("a smaller one would be broken", y.pass(2 * starts), starts == 1 ? 0 : Math.max(1, starts - 12));
        }
    }

    private static void oathOfSixPumps() {
        for (int pumps = 1; pumps <= 6; pumps++) {
            PumpOaths x = switching(pumps);
            int starts = 30;
            int each = (starts + pumps - 1) / pumps;
            Check.same("oathFor(60) of " + pumps, x.oathFor(60), each <= 12 ? each : PumpOaths.NONE);
            Check.same("as many starts as oaths", x.oathFor(2 * pumps), 1);
            Check.same("one start more", x.oathFor(2 * pumps + 1), 2);
        }
    }

    /** "the least oath of all pumps alike" */
    private static void oathOfPumpsAlike() {
        PumpOaths x = switching(2);
        x.swear(0, 1);
        x.swear(1, 12);
        Check.same("not as they have sworn", x.oathFor(20), 5);
        Check.same("the oath of 0 stands", x.pump(0, 1), 1);
        Check.same("the oath of 1 stands", x.pump(1, 1), 12);
        x.service(1, false);
        Check.same("those out of service can't help", x.oathFor(20), 10);
    }

    private static void oathCountsThisHour() {
        PumpOaths x = switching(1);
        x.swear(0, 12);
        x.pass(22);
        Check.same("with eleven starts before", x.oathFor(1), 12);
        Check.same("and a second one", x.oathFor(3), PumpOaths.NONE);
        x.pass(2);
        Check.same("with twelve starts before", x.oathFor(1), PumpOaths.NONE);
        x.pass(6);
        Check.same("some oaths are broken now", x.value(9), 3);
        x.setLevel(100);
        x.setDemand(0, 0);
        Check.same("those that were broken before do not matter", x.oathFor(30), 1);
    }

    private static void oathAtTheTurnOfAnHour() {
        PumpOaths x = switching(1);
        x.setDemand(1, 200);
        x.pass(40);
        x.service(0, false);
        x.pass(19);
        x.service(0, true);
        Check.same("the last minute of the hour", x.oathFor(1), PumpOaths.NONE);
        x.pass(1);
        x.service(0, false);
        x.service(0, true);
        x.setLevel(50);
        Check.same("twelve starts of the next one", x.oathFor(24), 12);
        Check.same("thirteen starts of the next one", x.oathFor(25), PumpOaths.NONE);
        PumpOaths y = switching(3);
        y.setDemand(1, 200);
        Check.same("two hours need no more than one", y.oathFor(120), y.oathFor(60));
    }

    private static void oathWithoutStarts() {
        Check.same("without pumps", new PumpOaths().oathFor(1440), 1);
        Check.same("without a start", Made.still(3).oathFor(1440), 1);
        PumpOaths x = switching(1);
        x.set(2, 0);
        Check.same("without force none is ever broken", x.oathFor(1440), 1);
        x.set(2, 1);
        x.service(0, false);
        Check.same("with none in service", x.oathFor(1440), 1);
    }

    /** "0 if it is 0 now" */
    private static void emptyNow() {
        PumpOaths x = new PumpOaths();
        x.setLevel(0);
        Check.same("emptyIn()", x.emptyIn(), 0);
        Made.addPumps(x, 6, 500, 12);
        Check.same("pumps or not", x.emptyIn(), 0);
        PumpOaths y = Made.still();
        Check.same("never", y.emptyIn(), PumpOaths.NONE);
        y.setLevel(0);
        Check.same("without demand, too", y.emptyIn(), 0);
    }

    private static void emptyInTheLastMinute() {
        PumpOaths x = Made.still();
        x.set(1, 3);
        int[] levels = {1, 3, 4, 3 * 1439, 3 * 1439 + 1, 3 * 1440, 3 * 1440 + 1, 10000};
        int[] due = {1, 1, 2, 1439, 1440, 1440, PumpOaths.NONE, PumpOaths.NONE};
        for (int i = 0; i < levels.length; i++) {
            x.setLevel(levels[i]);
            Check.same("emptyIn of " + levels[i], x.emptyIn(), due[i]);
        }
        PumpOaths y = new PumpOaths();
        y.setLevel(40);
        Check.same("the demand alone", y.emptyIn(), 2);
        y.set(1, 1);
        y.setLevel(42);
        Check.same("both", y.emptyIn(), 2);
        y.setLevel(43);
        Check.same("a liter more", y.emptyIn(), 3);
    }

    /** "if all pumps went out of service" */
    private static void emptyWithoutPumps() {
        PumpOaths x = new PumpOaths();
        Made.addPumps(x, 6, 500, 12);
        x.set(0, 1);
        x.setBand(9000, 10000);
        x.setLevel(0);
        x.pass(6);
        Check.same("all are on", x.value(5), 6);
        x.setLevel(100);
        Check.same("all of them stop", x.emptyIn(), 5);
        Check.same("they are still on", x.value(5), 6);
        x.setLevel(0);
        Check.same("it is empty before any pumps", x.emptyIn(), 0);
    }

    private static void emptyAtTheTurnOfADay() {
        PumpOaths x = Made.still();
        x.setDemand(0, 5);
        Made.passTo(x, 1430);
        x.setLevel(12);
        Check.same("ten minutes without demand", x.emptyIn(), 10 + 3);
        x.setLevel(300);
        Check.same("the whole hour 0", x.emptyIn(), 10 + 60);
        x.setLevel(301);
        Check.same("only the hour 0 of the day after it", x.emptyIn(), PumpOaths.NONE);
    }

    /** "the pump that starts first in the next 1440 minutes" */
    private static void nextStartInTheLastMinute() {
        PumpOaths x = Made.still(1);
        x.set(1, 1);
        x.setLevel(LOW + 1438);
        Check.same("below the low level as the minute 1440 begins", x.nextStart(), 0);
        Check.same("it starts then", x.startsIn(0, 1440), 1);
        Check.same("and not before", x.startsIn(0, 1439), 0);
        x.setLevel(LOW + 1439);
        Check.same("a minute later", x.nextStart(), PumpOaths.NONE);
        Check.same("startsIn", x.startsIn(0, 1440), 0);
        x.setLevel(LOW - 1);
        Check.same("in the first minute", x.nextStart(), 0);
    }

    private static void nextStartOfEachPump() {
        PumpOaths x = Made.still(6);
        x.set(0, 1);
        for (int pump = 0; pump < 6; pump++) {
            x.setLevel(0);
            Check.same("nextStart", x.nextStart(), pump);
            x.pass(1);
        }
        x.setLevel(0);
        Check.same("all are on", x.nextStart(), PumpOaths.NONE);
        PumpOaths y = Made.still(3);
        Made.restart(y);
        Check.same("one is on already", y.nextStart(), PumpOaths.NONE);
        Made.onAt(y, Made.HIGH);
        y.setLevel(0);
        Check.same("the next lead", y.nextStart(), 1);
        y.service(1, false);
        Check.same("the next one in service", y.nextStart(), 2);
        y.service(2, false);
        Check.same("round to the first one", y.nextStart(), 0);
    }

    /** "NONE if none does" */
    private static void noNextStart() {
        PumpOaths x = new PumpOaths();
        x.setLevel(0);
        Check.same("without pumps", x.nextStart(), PumpOaths.NONE);
        x.addPump(1, 1);
        x.service(0, false);
        Check.same("with none in service", x.nextStart(), PumpOaths.NONE);
        PumpOaths y = Made.still();
        y.addPump(1, 1);
        y.set(2, 0);
        Made.restart(y);
        Made.onAt(y, Made.HIGH);
        y.setLevel(0);
        Check.same("not in this hour, but in the next one", y.nextStart(), 0);
        Check.same("not in this hour", y.startsIn(0, 60 - y.value(7)), 0);
        Check.same("but in the next one", y.startsIn(0, 60 - y.value(7) + 1), 1);
    }

    /** "(here and in the next questions also beyond the time 1000000)" */
    private static void beyondTheGreatestTime() {
        PumpOaths late = Made.late(1000000);
        PumpOaths early = new PumpOaths();
        Made.passTo(early, 1000000 % 1440);
        for (PumpOaths x : new PumpOaths[] {late, early}) {
            x.addPump(400, 2);
            x.addPump(300, 3);
            x.setBand(100, 101);
            x.setDemand(10, 200);
            x.setLevel(50);
        }
        Check.same("minute of the hour", late.value(7) % 60, early.value(7) % 60);
        for (int minutes : new int[] {0, 1, 2, 19, 20, 21, 1439, 1440}) {
            Check.same("levelIn " + minutes, late.levelIn(minutes), early.levelIn(minutes));
            Check.same("startsIn " + minutes, late.startsIn(1, minutes), early.startsIn(1, minutes));
        }
        Check.same("levelIn(1)", late.levelIn(1), 250);
        Check.same("startsIn(0, 4)", late.startsIn(0, 4), 1);
        Check.same("oathFor(4)", late.oathFor(4), 1);
        Check.same("oathFor(1440)", late.oathFor(1440), early.oathFor(1440));
        Check.same("nextStart()", late.nextStart(), 0);
        Check.same("emptyIn()", late.emptyIn(), 1);
        late.setLevel(200 * 20 + 21);
        Check.same("over the turn of the hour", late.emptyIn(), 22);
        Check.same("the time stands", late.value(7), 1000000);
        Check.refuses(late, "only the questions go beyond it", Check.STATE, () -> late.pass(1));
    }

    /** "1.0 without starts" */
    private static void honestyWithoutStarts() {
        PumpOaths x = new PumpOaths();
        Check.same("without pumps", x.honesty(), 1.0);
        Made.addPumps(x, 6, 1, 1);
        Check.same("without starts", x.honesty(), 1.0);
        x.setLevel(0);
        x.pass(1);
        Check.same("one that was kept", x.honesty(), 1.0);
        x.undo();
        Check.same("undone", x.honesty(), 1.0);
    }

    private static void honestyOfStarts() {
        PumpOaths x = Made.still();
        x.addPump(1, 1);
        for (int starts = 1; starts <= 25; starts++) {
            Made.restart(x);
            Check.same("honesty of " + starts, x.honesty(), 1.0 / starts);
        }
        PumpOaths y = Made.still();
        Made.addPumps(y, 6, 1, 1);
        for (int starts = 1; starts <= 20; starts++) {
            Made.restart(y);
            Check.same("honesty of six pumps", y.honesty(), (double) Math.min(6, starts) / (double) starts);
        }
    }

    private static void questionsChangeNothing() {
        Supplier<PumpOaths> made = Made::busy;
        Probe.same("questions", () -> {
            PumpOaths x = made.get();
            x.levelIn(1440);
            x.startsIn(5, 1440);
            x.oathFor(1440);
            x.emptyIn();
            x.nextStart();
            x.honesty();
            x.digest();
            return x;
        }, made);
    }
}
