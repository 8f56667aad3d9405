/** Promises 18 to 23: the questions, which change nothing. */
public final class WhatIfTest {

    private static final int[] NO_MINUTES = {-1, 1441, Integer.MIN_VALUE, Integer.MAX_VALUE};

    public static void main(String[] args) {
        levelIn();
        startsIn();
        oathFor();
        oathForKnowsThisHour();
        emptyIn();
        nextStart();
        honesty();
        nothingChanges();
        Check.close("WhatIfTest");
    }

    /** The level goes 50, 250, 50 by turns in the first hour: a start in every even minute. */
    private static PumpOaths switching(int pumps) {
        PumpOaths x = new PumpOaths();
        x.setBand(100, 101);
        x.setLevel(50);
        x.setDemand(0, 200);
        for (int i = 0; i < pumps; i++) {
            x.addPump(400, 12);
        }
        return x;
    }

    private static void levelIn() {
        PumpOaths x = switching(1);
        Check.same("levelIn(0)", x.levelIn(0), 50);
        Check.same("levelIn(1)", x.levelIn(1), 250);
        Check.same("levelIn(2)", x.levelIn(2), 50);
        Check.same("levelIn(61)", x.levelIn(61), 50 + 400 - 20);
        int due = x.levelIn(1440);
        x.pass(1440);
        Check.same("it comes as it was told", x.value(1), due);
        for (int wrong : NO_MINUTES) {
            Check.refuses(x, "levelIn out of range", Check.ARGUMENT, () -> x.levelIn(wrong));
        }
    }

    private static void startsIn() {
        PumpOaths x = switching(2);
        x.pass(4);
        Check.same("startsIn(0, 0)", x.startsIn(0, 0), 0);
        Check.same("startsIn(0, 1)", x.startsIn(0, 1), 1);
        Check.same("startsIn(1, 1)", x.startsIn(1, 1), 0);
        Check.same("startsIn(0, 56)", x.startsIn(0, 56), 14);
        Check.same("startsIn(1, 56)", x.startsIn(1, 56), 14);
        Check.holds("over a day", x.startsIn(1, 1440) >= 14);
        Check.refuses(x, "startsIn(2, 1)", Check.INDEX, () -> x.startsIn(2, 1));
        Check.refuses(x, "startsIn(-1, -1)", Check.INDEX, () -> x.startsIn(-1, -1));
        for (int wrong : NO_MINUTES) {
            Check.refuses(x, "startsIn out of range", Check.ARGUMENT, () -> x.startsIn(0, wrong));
        }
    }

    private static void oathFor() {
        PumpOaths x = switching(1);
        Check.same("one start", x.oathFor(1), 1);
        Check.same("one start", x.oathFor(2), 1);
        Check.same("two starts", x.oathFor(3), 2);
        Check.same("twelve starts", x.oathFor(24), 12);
        Check.same("thirteen starts", x.oathFor(25), PumpOaths.NONE);
        PumpOaths y = switching(2);
        Check.same("two pumps share twelve starts", y.oathFor(24), 6);
        Check.same("and a thirteenth", y.oathFor(25), 7);
        y.service(0, false);
        Check.same("one of them is out", y.oathFor(25), PumpOaths.NONE);
        y.set(2, 0);
        Check.same("without force no oath is ever broken", y.oathFor(1440), 1);
        Check.refuses(x, "oathFor(0)", Check.ARGUMENT, () -> x.oathFor(0));
        for (int wrong : NO_MINUTES) {
            Check.refuses(x, "oathFor out of range", Check.ARGUMENT, () -> x.oathFor(wrong));
        }
        Check.same("without pumps", new PumpOaths().oathFor(1440), 1);
    }

    private static void oathForKnowsThisHour() {
        PumpOaths x = switching(1);
        x.pass(10);
        Check.same("five starts before count, too", x.oathFor(1), 6);
        x.pass(24);
        Check.same("broken ones before do not matter", x.oathFor(1), PumpOaths.NONE);
        Check.same("an oath that is not asked for stands", x.pump(0, 1), 12);
        x.pass(26);
        x.setLevel(50);
        Check.same("in a new hour all is forgotten", x.oathFor(1), 1);
    }

    private static void emptyIn() {
        PumpOaths x = new PumpOaths();
        Check.same("emptyIn()", x.emptyIn(), 250);
        x.addPump(500, 12);
        x.setLevel(100);
        x.pass(1);
        Check.same("a pump that is on is out, too", x.emptyIn(), (100 + 500 - 20) / 20);
        x.setLevel(1);
        Check.same("a rest takes a minute", x.emptyIn(), 1);
        x.setLevel(0);
        Check.same("it is empty now", x.emptyIn(), 0);
        x.set(1, 10);
        x.setLevel(60);
        Check.same("the leak helps", x.emptyIn(), 2);
        x.set(1, 0);
        x.setSize(100000);
        x.setLevel(1440 * 20);
        Check.same("the last minute", x.emptyIn(), 1440);
        x.setLevel(1440 * 20 + 1);
        Check.same("one minute more", x.emptyIn(), PumpOaths.NONE);
        x.setLevel(59 * 20 + 21);
        x.setDemand(1, 0);
        Check.same("an hour without demand", x.emptyIn(), 59 + 60 + 2);
    }

    private static void nextStart() {
        PumpOaths x = new PumpOaths();
        Check.same("without pumps", x.nextStart(), PumpOaths.NONE);
        x.addPump(500, 1);
        x.addPump(500, 2);
        x.setLevel(4000);
        Check.same("the lead", x.nextStart(), 0);
        x.service(0, false);
        Check.same("the first one in service", x.nextStart(), 1);
        x.service(1, false);
        Check.same("none in service", x.nextStart(), PumpOaths.NONE);
        x.service(1, true);
        for (int hour = 0; hour < 24; hour++) {
            x.setDemand(hour, 0);
        }
        Check.same("none is needed", x.nextStart(), PumpOaths.NONE);
        x.setDemand(23, 1);
        x.pass(1);
        Check.same("wanted in the minute 1381", x.nextStart(), 1);
        x.setDemand(23, 0);
        x.setDemand(0, 1);
        x.setLevel(4000 + 58);
        Check.same("at the end of this hour the level is 3999", x.levelIn(59), 3999);
        Check.same("then it starts", x.nextStart(), 1);
        x.setLevel(4000 + 59);
        Check.same("the 1440th minute is the first of this hour tomorrow", x.nextStart(), PumpOaths.NONE);
        x.setDemand(0, 0);
        x.pass(1);
        x.setDemand(0, 1);
        x.setLevel(4000 + 58);
        Check.same("below in the 1439th minute, it starts in the 1440th", x.nextStart(), 1);
        x.setLevel(4000 + 59);
        Check.same("below in the 1440th minute only", x.nextStart(), PumpOaths.NONE);
    }

    private static void honesty() {
        PumpOaths x = switching(1);
        Check.same("without starts", x.honesty(), 1.0);
        x.pass(24);
        Check.same("all kept", x.honesty(), 1.0);
        x.pass(2);
        Check.same("one of thirteen broken", x.honesty(), 12.0 / 13.0);
        x.addPump(1, 1);
        x.pass(2);
        Check.same("all pumps count", x.honesty(), 13.0 / 14.0);
    }

    private static void nothingChanges() {
        PumpOaths x = switching(2);
        x.pass(31);
        Texts.write(x, "m1;");
        long before = x.digest();
        x.levelIn(1440);
        x.startsIn(0, 1440);
        x.oathFor(1440);
        x.emptyIn();
        x.nextStart();
        x.honesty();
        Check.same("the digest", x.digest(), before);
    }
}
