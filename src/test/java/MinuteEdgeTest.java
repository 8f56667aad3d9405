/** "When a minute passes": each sentence of its four steps at its edge and on the other side. */
public final class MinuteEdgeTest {

    private static final int LOW = Made.LOW;
    private static final int HIGH = Made.HIGH;

    public static void main(String[] args) {
        pumpsStopAtTheHighLevel();
        allPumpsStop();
        leadGoesOnlyIfOneStopped();
        leadThatIsNotOnGoesToo();
        leadComesRound();
        stageBegins();
        stageAtAnEmptyTank();
        noMoreAreWantedThanThereAre();
        noneStartsIfAsManyAreOnAsWanted();
        oneStartsInAMinute();
        firstOfTheOrderStarts();
        fewerStartsThanTheOath();
        forcedStart();
        forcedStartOfTheFirstOne();
        noForce();
        breaksItsOath();
        justStartedPumps();
        overflowBegins();
        overflowOfAFullTank();
        demandTakesWhatThereIs();
        leakTakesWhatIsLeft();
        overflowThenDemandThenLeak();
        minutesBelow();
        minutesThatAPumpPumped();
        timeIncreasesByOne();
        Check.close("MinuteEdgeTest");
    }

    /** "If the level is at least the high level of the band, all pumps that are on go off." */
    private static void pumpsStopAtTheHighLevel() {
        for (int level = HIGH - 1; level <= HIGH + 1; level++) {
            PumpOaths x = Made.still(1);
            Check.same("on below the low level", Made.onAt(x, LOW - 1), 1);
            Check.same("on at " + level, Made.onAt(x, level), level < HIGH ? 1 : 0);
            Check.same("level after it", x.value(1), level < HIGH ? level + 1 : level);
        }
        PumpOaths x = Made.still(1);
        x.setBand(4998, 5000);
        x.setLevel(4997);
        x.pass(3);
        Check.same("the minute that reaches the high level still pumps", x.value(1), 5000);
        Check.same("it is still on", x.value(5), 1);
        x.pass(1);
        Check.same("it goes off as the next one passes", x.value(5), 0);
    }

    private static PumpOaths allOn() {
        PumpOaths x = Made.still(6);
        x.set(0, 1);
        x.setLevel(0);
        x.pass(6);
        Check.same("six are on", x.value(5), 6);
        return x;
    }

    private static void allPumpsStop() {
        PumpOaths x = allOn();
        x.service(2, false);
        Check.same("none is on", Made.onAt(x, HIGH), 0);
        for (int pump = 0; pump < 6; pump++) {
            Check.same("pump(" + pump + ", 2)", x.pump(pump, 2), pump == 2 ? 2 : 0);
        }
        Check.same("the lead goes on by one", x.value(11), 1);
    }

    /** "If there was such a pump, the lead goes to the end of the order." */
    private static void leadGoesOnlyIfOneStopped() {
        PumpOaths x = Made.still(3);
        x.setLevel(HIGH);
        x.pass(3);
        Check.same("no pump was on", x.value(11), 0);
        Made.onAt(x, LOW - 1);
        Check.same("a start moves no lead", x.value(11), 0);
        Made.onAt(x, HIGH - 1);
        Check.same("nor does a minute in the band", x.value(11), 0);
        Made.onAt(x, HIGH);
        Check.same("one went off", x.value(11), 1);
        Made.onAt(x, HIGH);
        Check.same("the minute after it", x.value(11), 1);
        Made.onAt(x, LOW - 1);
        x.service(1, false);
        Made.onAt(x, HIGH);
        Check.same("one that went out of service does not go off", x.value(11), 1);
        PumpOaths alone = Made.still(1);
        Made.restart(alone);
        Made.restart(alone);
        Check.same("a lead alone stays it", alone.value(11), 0);
        Check.same("its place", alone.pump(0, 3), 0);
    }

    private static void leadThatIsNotOnGoesToo() {
        PumpOaths x = Made.still(3);
        x.service(0, false);
        Made.onAt(x, LOW - 1);
        Check.same("the second one is on", x.pump(1, 2), 1);
        Check.same("the lead is out of service", x.value(11), 0);
        Made.onAt(x, HIGH);
        places(x, 2, 0, 1);
        x.service(0, true);
        Check.same("it comes back to its place", x.pump(0, 3), 2);
        x.swear(1, 1);
        Made.onAt(x, LOW - 1);
        Check.same("the lead has no start left", x.pump(1, 2), 0);
        Check.same("the next one starts", x.pump(2, 2), 1);
        Made.onAt(x, HIGH);
        places(x, 1, 2, 0);
    }

    private static void places(PumpOaths x, int... due) {
        for (int pump = 0; pump < due.length; pump++) {
            Check.same("place of " + pump, x.pump(pump, 3), due[pump]);
            if (due[pump] == 0) {
                Check.same("lead", x.value(11), pump);
            }
        }
    }

    private static void leadComesRound() {
        PumpOaths x = Made.still(6);
        for (int round = 0; round < 13; round++) {
            Check.same("lead of the round " + round, x.value(11), round % 6);
            for (int pump = 0; pump < 6; pump++) {
                Check.same("place", x.pump(pump, 3), (pump - round % 6 + 6) % 6);
            }
            Made.onAt(x, LOW - 1);
            Check.same("the lead is on", x.pump(round % 6, 2), 1);
            Made.onAt(x, HIGH);
        }
    }

    /** "wanted is the number of stages k = 0, 1, 2 and so on for which the level is less than low - k * step" */
    private static void stageBegins() {
        for (int stage = 0; stage < 6; stage++) {
            PumpOaths x = Made.still(6);
            x.set(0, 1);
            for (int on = 1; on <= stage; on++) {
                Check.same("on", Made.onAt(x, 0), on);
            }
            x.set(0, 700);
            Check.same("at the stage " + stage, Made.onAt(x, LOW - stage * 700), stage);
            Check.same("below the stage " + stage, Made.onAt(x, LOW - stage * 700 - 1), stage + 1);
        }
    }

    private static void stageAtAnEmptyTank() {
        PumpOaths x = Made.still(3);
        x.setBand(1000, HIGH);
        x.setLevel(0);
        x.pass(1);
        Check.same("two stages are below 1000 - k * 500", Made.onAt(x, 0), 2);
        Check.same("0 is not less than 1000 - 2 * 500", Made.onAt(x, 0), 2);
        x.setBand(1001, HIGH);
        Check.same("0 is less than 1001 - 2 * 500", Made.onAt(x, 0), 3);

        PumpOaths y = Made.still(2);
        y.setBand(1, 2);
        Check.same("the least low level", Made.onAt(y, 1), 0);
        Check.same("only 0 is below it", Made.onAt(y, 0), 1);
        Check.same("a second stage would be below 0", Made.onAt(y, 0), 1);

        PumpOaths z = Made.still(2);
        z.set(0, 5000);
        z.setBand(5000, HIGH);
        z.setLevel(0);
        z.pass(1);
        Check.same("the greatest step, at the stage", Made.onAt(z, 0), 1);
        z.setBand(5001, HIGH);
        Check.same("the greatest step, below the stage", Made.onAt(z, 0), 2);
    }

    /** "at most the number of pumps" */
    private static void noMoreAreWantedThanThereAre() {
        for (int pumps = 0; pumps <= 6; pumps++) {
            PumpOaths x = Made.still(pumps);
            x.set(0, 1);
            x.setLevel(0);
            Check.same("no oath is broken", x.pass(20), 0);
            Check.same("on of " + pumps, x.value(5), pumps);
            for (int pump = 0; pump < pumps; pump++) {
                Check.same("starts", x.pump(pump, 5), 1);
            }
        }
    }

    /** "If fewer pumps are on than wanted, one pump starts" */
    private static void noneStartsIfAsManyAreOnAsWanted() {
        PumpOaths x = Made.still(3);
        Check.same("one is wanted", Made.onAt(x, LOW - 1), 1);
        Check.same("one is on", Made.onAt(x, LOW - 500), 1);
        Check.same("two are wanted", Made.onAt(x, LOW - 501), 2);
        Check.same("more are on than wanted", Made.onAt(x, LOW - 1), 2);
        Check.same("none is wanted, but those that are on stay it", Made.onAt(x, LOW), 2);
        Check.same("just below the high level", Made.onAt(x, HIGH - 1), 2);
    }

    private static void oneStartsInAMinute() {
        PumpOaths x = Made.still(6);
        x.set(0, 1);
        for (int on = 1; on <= 6; on++) {
            Check.same("on", Made.onAt(x, 0), on);
            Check.same("the newest one", x.pump(on - 1, 4), 1);
        }
    }

    /** "the first one of the order that is off and has fewer starts in this hour than its oath" */
    private static void firstOfTheOrderStarts() {
        PumpOaths x = Made.still(6);
        for (int round = 0; round < 4; round++) {
            Made.restart(x);
        }
        Made.onAt(x, HIGH);
        places(x, 2, 3, 4, 5, 0, 1);
        x.set(0, 1);
        int[] order = {4, 5, 0, 1, 2, 3};
        x.service(5, false);
        int on = 0;
        for (int pump : order) {
            if (pump != 5) {
                on++;
                Check.same("on", Made.onAt(x, 0), on);
                Check.same("the pump " + pump, x.pump(pump, 2), 1);
            }
        }
    }

    private static void fewerStartsThanTheOath() {
        PumpOaths x = Made.still();
        x.addPump(1, 2);
        x.addPump(1, 12);
        x.addPump(1, 12);
        Made.restart(x);
        Check.same("the lead 0", x.pump(0, 4), 1);
        Made.restart(x);
        Check.same("the lead 1", x.pump(1, 4), 1);
        Made.restart(x);
        Check.same("the lead 2", x.pump(2, 4), 1);
        Made.restart(x);
        Check.same("one less than its oath", x.pump(0, 4), 2);
        Made.restart(x);
        Made.restart(x);
        Check.same("as many as its oath: not it", x.pump(0, 4), 2);
        Made.restart(x);
        Check.same("the next one of the order", x.pump(1, 4), 3);
        Check.same("no oath was broken", x.value(9), 0);
        x.swear(0, 1);
        for (int round = 0; round < 3; round++) {
            Check.same("more than its oath: not it, either", Made.restart(x), 0);
        }
        Check.same("starts", x.pump(0, 4), 2);
        Check.same("an oath that was sworn too low is none that is broken", x.value(9), 0);
    }

    /** "if there is none, and force is 1, the first one of the order that is off" */
    private static void forcedStart() {
        PumpOaths x = Made.still();
        Made.addPumps(x, 3, 1, 1);
        Check.same("three that keep their oaths", Made.restart(x) + Made.restart(x) + Made.restart(x), 0);
        Check.same("then the first one of the order", Made.restart(x), 1);
        Check.same("pump 0", x.pump(0, 4), 2);
        Check.same("then the next lead", Made.restart(x), 1);
        Check.same("pump 1", x.pump(1, 4), 2);
        x.service(2, false);
        Check.same("the lead 2 is out of service", Made.restart(x), 1);
        Check.same("pump 2", x.pump(2, 4), 1);
        Check.same("pump 0 is behind it", x.pump(0, 4), 3);
        Made.onAt(x, HIGH);
        Check.same("the lead", x.value(11), 0);
        Made.onAt(x, LOW - 1);
        Check.same("the lead is on", x.pump(0, 4), 4);
        x.setLevel(LOW - 501);
        Check.same("a second one is wanted", x.pass(1), 1);
        Check.same("one that is on does not start", x.pump(0, 4), 4);
        Check.same("the next one that is off", x.pump(1, 4), 3);
        x.setLevel(0);
        Check.same("none is off any more", x.pass(5), 0);
        Check.same("on", x.value(5), 2);
    }

    /** One that breaks its oath starts only if none could keep it, however far behind. */
    private static void forcedStartOfTheFirstOne() {
        PumpOaths x = Made.still();
        Made.addPumps(x, 5, 1, 1);
        x.addPump(1, 2);
        x.set(0, 1);
        x.setLevel(0);
        Check.same("six starts", x.pass(6), 0);
        Check.same("the last one can keep its oath", Made.restart(x), 0);
        Check.same("pump 5", x.pump(5, 4), 2);
        x.setLevel(0);
        Check.same("the next ones can't", x.pass(5), 5);
        for (int index = 0; index < 5; index++) {
            Check.same("from the first one of the order on", x.entry(4 - index, 0), (index + 1) % 5);
        }
    }

    private static void noForce() {
        PumpOaths x = Made.still();
        x.set(2, 0);
        x.addPump(1, 1);
        x.addPump(1, 2);
        Made.restart(x);
        Made.restart(x);
        Check.same("still one that keeps its oath", Made.restart(x), 0);
        Check.same("it is on", x.value(5), 1);
        Check.same("none without force", Made.restart(x), 0);
        Check.same("it is off", x.value(5), 0);
        Check.same("none starts in the rest of the hour", x.pass(60 - x.value(7)), 0);
        Check.same("it is off", x.value(5), 0);
        x.pass(1);
        Check.same("in the next hour one does", x.value(5), 1);
    }

    /** "(One that starts with at least as many starts in this hour as its oath breaks its oath.)" */
    private static void breaksItsOath() {
        for (int oath = 1; oath <= 12; oath++) {
            PumpOaths x = Made.still();
            x.addPump(1, oath);
            for (int start = 1; start <= oath + 2; start++) {
                Check.same("start " + start + " with the oath " + oath, Made.restart(x), start > oath ? 1 : 0);
                Check.same("starts in this hour", x.pump(0, 4), start);
                Check.same("starts so far", x.pump(0, 5), start);
                Check.same("broken by it", x.pump(0, 7), Math.max(0, start - oath));
                Check.same("broken", x.value(9), Math.max(0, start - oath));
                Check.same("entries", x.value(13), Math.max(0, start - oath));
            }
        }
        PumpOaths x = Made.still();
        x.addPump(1, 3);
        Made.restart(x);
        Made.restart(x);
        x.swear(0, 2);
        Check.same("as many as the oath that was sworn since", Made.restart(x), 1);
        x.swear(0, 4);
        Check.same("one less than a greater oath", Made.restart(x), 0);
        x.swear(0, 1);
        Check.same("far more than a smaller one", Made.restart(x), 1);
        Check.same("its starts are told with this one", x.entry(0, 2), 5);
    }

    /** "The pumps that are on (also one that has just started) pump their capacities" */
    private static void justStartedPumps() {
        PumpOaths x = Made.still();
        Made.addPumps(x, 5, 500, 12);
        x.addPump(1, 12);
        x.set(0, 1);
        x.setLevel(0);
        x.pass(1);
        Check.same("the one that has just started", x.value(1), 500);
        for (int on = 2; on <= 6; on++) {
            Made.onAt(x, 0);
            Check.same("all that are on", x.value(1), on < 6 ? on * 500 : 2501);
        }
        x.service(5, false);
        x.service(1, false);
        Made.onAt(x, 0);
        Check.same("not those out of service", x.value(1), 2000);
        Made.onAt(x, HIGH);
        Check.same("not those that went off", x.value(1), HIGH);
    }

    /** A tank of 1000 with one pump that is on, and a band that it never reaches in one minute. */
    private static PumpOaths full(int capacity) {
        PumpOaths x = new PumpOaths();
        x.setDemand(0, 0);
        x.setBand(999, 1000);
        x.setLevel(998);
        x.setSize(1000);
        x.addPump(capacity, 12);
        return x;
    }

    /** "all of this counts as pumped. What does not fit into the tank overflows." */
    private static void overflowBegins() {
        for (int capacity = 1; capacity <= 4; capacity++) {
            PumpOaths x = full(capacity);
            x.pass(1);
            Check.same("level", x.value(1), Math.min(1000, 998 + capacity));
            Check.same("pumped", x.water(0), capacity);
            Check.same("overflowed", x.water(1), Math.max(0, capacity - 2));
        }
    }

    private static void overflowOfAFullTank() {
        PumpOaths x = new PumpOaths();
        x.setDemand(0, 0);
        x.setBand(99, 100);
        x.setLevel(0);
        x.setSize(100);
        Made.addPumps(x, 6, 500, 12);
        x.pass(1);
        Check.same("the least tank is full", x.value(1), 100);
        Check.same("overflowed", x.water(1), 400);
        x.pass(1);
        Check.same("at the high level none pumps", x.water(0), 500);
        Check.same("overflowed", x.water(1), 400);

        PumpOaths y = new PumpOaths();
        y.setSize(100000);
        y.setBand(99999, 100000);
        y.set(0, 1);
        y.setDemand(0, 1000);
        Made.addPumps(y, 6, 500, 12);
        y.setLevel(0);
        y.pass(6);
        y.setLevel(99999);
        y.pass(1);
        Check.same("pumped", y.water(0), 500 * (1 + 2 + 3 + 4 + 5 + 6) + 3000);
        Check.same("all but one overflows", y.water(1), 2999);
        Check.same("then the demand takes its amount", y.value(1), 99000);
    }

    /** "Then the demand of the hour takes its amount, but not more than there is; what it lacks is lacking." */
    private static void demandTakesWhatThereIs() {
        for (int level : new int[] {0, 1, 299, 300, 301}) {
            PumpOaths x = new PumpOaths();
            x.setDemand(0, 300);
            x.setLevel(level);
            x.pass(1);
            Check.same("level after " + level, x.value(1), Math.max(0, level - 300));
            Check.same("taken of " + level, x.water(2), Math.min(300, level));
            Check.same("lacking with " + level, x.water(3), Math.max(0, 300 - level));
        }
        PumpOaths x = new PumpOaths();
        x.setDemand(0, 300);
        x.setLevel(0);
        x.addPump(299, 1);
        x.pass(1);
        Check.same("also what has just been pumped", x.water(2), 299);
        Check.same("lacking", x.water(3), 1);
        PumpOaths none = Made.still();
        none.setLevel(0);
        none.pass(1440);
        Check.same("a demand of 0 lacks nothing", none.water(3), 0);
    }

    /** "Then the leak takes its amount, but not more than there is." */
    private static void leakTakesWhatIsLeft() {
        for (int level : new int[] {20, 21, 119, 120, 121}) {
            PumpOaths x = new PumpOaths();
            x.set(1, 100);
            x.setLevel(level);
            x.pass(1);
            Check.same("level after " + level, x.value(1), Math.max(0, level - 120));
            Check.same("taken of " + level, x.water(2), 20);
            Check.same("leaked of " + level, x.water(4), Math.min(100, level - 20));
            Check.same("what the leak does not get is not lacking", x.water(3), 0);
        }
    }

    private static void overflowThenDemandThenLeak() {
        PumpOaths x = full(12);
        x.setDemand(0, 997);
        x.set(1, 100);
        x.pass(1);
        Check.same("pumped", x.water(0), 12);
        Check.same("overflowed before the demand", x.water(1), 10);
        Check.same("taken before the leak", x.water(2), 997);
        Check.same("lacking", x.water(3), 0);
        Check.same("leaked", x.water(4), 3);
        Check.same("empty", x.value(1), 0);
    }

    /** "the minutes so far at whose end the level was below the low level of the band as it was then" */
    private static void minutesBelow() {
        PumpOaths x = new PumpOaths();
        x.setLevel(LOW + 20);
        x.pass(1);
        Check.same("at the low level", x.value(10), 0);
        x.setLevel(LOW + 19);
        x.pass(1);
        Check.same("below it", x.value(10), 1);
        x.setLevel(LOW);
        Check.same("no minute has passed", x.value(10), 1);
        x.setLevel(0);
        x.setLevel(9000);
        x.pass(1);
        Check.same("only the end of a minute counts", x.value(10), 1);
        x.setBand(8981, 9500);
        Check.same("not as the band is now", x.value(10), 1);
        x.pass(1);
        Check.same("below the new low level", x.value(10), 2);
        x.setBand(1, 2);
        Check.same("as it was then", x.value(10), 2);
        x.setLevel(20);
        x.pass(1);
        Check.same("0 is below the least low level", x.value(10), 3);
    }

    private static void minutesThatAPumpPumped() {
        PumpOaths x = Made.still(2);
        x.setLevel(LOW - 1);
        x.pass(1);
        Check.same("the minute of the start", x.pump(0, 6), 1);
        x.pass(59);
        Check.same("the minutes after it", x.pump(0, 6), 60);
        Made.onAt(x, HIGH);
        Check.same("not the one in which it went off", x.pump(0, 6), 60);
        Check.same("one that was never on", x.pump(1, 6), 0);
        Made.onAt(x, LOW - 1);
        x.service(1, false);
        x.pass(5);
        Check.same("not those out of service", x.pump(1, 6), 1);
    }

    /** "The time increases by 1." */
    private static void timeIncreasesByOne() {
        PumpOaths x = new PumpOaths();
        x.pass(1);
        Check.same("time", x.value(7), 1);
        x.pass(1440);
        Check.same("time", x.value(7), 1441);
        x.setLevel(0);
        x.pass(1);
        Check.same("time with an empty tank", x.value(7), 1442);
    }
}
