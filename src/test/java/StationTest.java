/** Promises 1 to 10: a new object, the settings, the pumps, and what happens when minutes pass. */
public final class StationTest {

    private static final int HUGE = Integer.MAX_VALUE;
    private static final int TINY = Integer.MIN_VALUE;

    public static void main(String[] args) {
        newObject();
        setSize();
        setBand();
        setLevel();
        set();
        setDemand();
        addPump();
        swear();
        service();
        passRefuses();
        timeEnds();
        waterMoves();
        bandSwitches();
        stagesStartOneByOne();
        outOfServiceStillCountsAsWanted();
        leadGoesOn();
        oathsAreKept();
        oathsAreBroken();
        hourBegins();
        Check.close("StationTest");
    }

    private static void values(PumpOaths x, int... due) {
        for (int what = 0; what < due.length; what++) {
            Check.same("value(" + what + ")", x.value(what), due[what]);
        }
    }

    private static void pump(PumpOaths x, int pump, int... due) {
        for (int what = 0; what < due.length; what++) {
            Check.same("pump(" + pump + ", " + what + ")", x.pump(pump, what), due[what]);
        }
    }

    private static void newObject() {
        PumpOaths x = new PumpOaths();
        Check.same("NONE", PumpOaths.NONE, -1);
        values(x, 10000, 5000, 4000, 8000, 0, 0, 0, 0, 0, 0, 0, PumpOaths.NONE, 0, 0);
        Check.same("setting(0)", x.setting(0), 500);
        Check.same("setting(1)", x.setting(1), 0);
        Check.same("setting(2)", x.setting(2), 1);
        for (int hour = 0; hour < 24; hour++) {
            Check.same("demand", x.demand(hour), 20);
        }
        for (int what = 0; what < 5; what++) {
            Check.same("water", x.water(what), 0);
        }
        Check.refuses(x, "undo of a new object", Check.STATE, () -> x.undo());
    }

    private static void setSize() {
        PumpOaths x = new PumpOaths();
        Check.same("setSize(8000)", x.setSize(8000), 10000);
        Check.same("setSize(100000)", x.setSize(100000), 8000);
        Check.same("value(0)", x.value(0), 100000);
        for (int size : new int[] {99, 100001, 0, -1, HUGE, TINY}) {
            Check.refuses(x, "setSize out of range", Check.ARGUMENT, () -> x.setSize(size));
        }
        Check.refuses(x, "setSize under the band", Check.STATE, () -> x.setSize(7999));
        x.setBand(1, 2);
        Check.refuses(x, "setSize under the level", Check.STATE, () -> x.setSize(4999));
        Check.same("setSize at the level", x.setSize(5000), 100000);
        x.setLevel(100);
        x.setBand(99, 101);
        Check.refuses(x, "setSize under the high level", Check.STATE, () -> x.setSize(100));
        x.setBand(99, 100);
        Check.same("the least size", x.setSize(100), 5000);
    }

    private static void setBand() {
        PumpOaths x = new PumpOaths();
        Check.same("setBand(1, 2)", x.setBand(1, 2), 4000);
        Check.same("setBand(9, 10000)", x.setBand(9, 10000), 1);
        values(x, 10000, 5000, 9, 10000);
        for (int[] band : new int[][] {{0, 5}, {-1, 5}, {5, 5}, {6, 5}, {TINY, HUGE}, {20000, 20000}, {HUGE, TINY}}) {
            Check.refuses(x, "setBand of no band", Check.ARGUMENT, () -> x.setBand(band[0], band[1]));
        }
        Check.refuses(x, "setBand above the size", Check.STATE, () -> x.setBand(1, 10001));
        Check.refuses(x, "setBand far above the size", Check.STATE, () -> x.setBand(1, HUGE));
        Check.same("the undo takes one call back", x.undo(), 1);
        values(x, 10000, 5000, 1, 2);
    }

    private static void setLevel() {
        PumpOaths x = new PumpOaths();
        Check.same("setLevel(0)", x.setLevel(0), 5000);
        Check.same("setLevel(10000)", x.setLevel(10000), 0);
        Check.refuses(x, "setLevel(-1)", Check.ARGUMENT, () -> x.setLevel(-1));
        Check.refuses(x, "setLevel least", Check.ARGUMENT, () -> x.setLevel(TINY));
        Check.refuses(x, "setLevel(10001)", Check.STATE, () -> x.setLevel(10001));
        Check.refuses(x, "setLevel greatest", Check.STATE, () -> x.setLevel(HUGE));
        Check.same("value(1)", x.value(1), 10000);
        Check.same("no water moved", x.water(0) + x.water(1) + x.water(2) + x.water(3) + x.water(4), 0);
        Check.same("undo", x.undo(), 1);
        Check.same("value(1)", x.value(1), 0);
    }

    private static void set() {
        PumpOaths x = new PumpOaths();
        int[] first = {500, 0, 1};
        int[] least = {1, 0, 0};
        int[] greatest = {5000, 100, 1};
        for (int i = 0; i < 3; i++) {
            int what = i;
            Check.same("set least", x.set(what, least[what]), first[what]);
            Check.same("set greatest", x.set(what, greatest[what]), least[what]);
            Check.same("setting", x.setting(what), greatest[what]);
            Check.refuses(x, "set below", Check.ARGUMENT, () -> x.set(what, least[what] - 1));
            Check.refuses(x, "set above", Check.ARGUMENT, () -> x.set(what, greatest[what] + 1));
        }
        Check.refuses(x, "set(-1, 1)", Check.ARGUMENT, () -> x.set(-1, 1));
        Check.refuses(x, "set(3, 1)", Check.ARGUMENT, () -> x.set(3, 1));
        Check.refuses(x, "set(HUGE, 1)", Check.ARGUMENT, () -> x.set(HUGE, 1));
        Check.same("undo", x.undo(), 3);
        Check.same("setting(2) is as before", x.setting(2), 0);
    }

    private static void setDemand() {
        PumpOaths x = new PumpOaths();
        Check.same("setDemand(0, 1000)", x.setDemand(0, 1000), 20);
        Check.same("setDemand(0, 0)", x.setDemand(0, 0), 1000);
        Check.same("setDemand(23, 7)", x.setDemand(23, 7), 20);
        Check.same("demand(23)", x.demand(23), 7);
        Check.same("demand(22)", x.demand(22), 20);
        Check.refuses(x, "setDemand(24, 0)", Check.INDEX, () -> x.setDemand(24, 0));
        Check.refuses(x, "setDemand(-1, 1001)", Check.INDEX, () -> x.setDemand(-1, 1001));
        Check.refuses(x, "setDemand(0, 1001)", Check.ARGUMENT, () -> x.setDemand(0, 1001));
        Check.refuses(x, "setDemand(0, -1)", Check.ARGUMENT, () -> x.setDemand(0, -1));
        Check.same("undo", x.undo(), 2);
        Check.same("demand(23)", x.demand(23), 20);
    }

    private static void addPump() {
        PumpOaths x = new PumpOaths();
        Check.same("addPump(1, 1)", x.addPump(1, 1), 0);
        Check.same("addPump(500, 12)", x.addPump(500, 12), 1);
        pump(x, 0, 1, 1, 0, 0, 0, 0, 0, 0);
        pump(x, 1, 500, 12, 0, 1, 0, 0, 0, 0);
        for (int[] wrong : new int[][] {{0, 1}, {501, 1}, {1, 0}, {1, 13}, {TINY, HUGE}}) {
            Check.refuses(x, "addPump out of range", Check.ARGUMENT, () -> x.addPump(wrong[0], wrong[1]));
        }
        for (int number = 2; number < 6; number++) {
            Check.same("addPump", x.addPump(10, 2), number);
        }
        Check.refuses(x, "a seventh pump", Check.STATE, () -> x.addPump(10, 2));
        Check.refuses(x, "a seventh wrong pump", Check.ARGUMENT, () -> x.addPump(0, 2));
        Check.same("pumps", x.value(4), 6);
        Check.same("undo", x.undo(), 3);
        Check.same("pumps", x.value(4), 5);
        Check.same("the number is free again", x.addPump(77, 3), 5);
        pump(x, 5, 77, 3, 0, 5, 0, 0, 0, 0);
    }

    private static void swear() {
        PumpOaths x = new PumpOaths();
        Check.refuses(x, "swear without pumps", Check.INDEX, () -> x.swear(0, 13));
        x.addPump(10, 5);
        Check.same("swear(0, 1)", x.swear(0, 1), 5);
        Check.same("swear(0, 12)", x.swear(0, 12), 1);
        Check.same("pump(0, 1)", x.pump(0, 1), 12);
        Check.refuses(x, "swear(-1, 1)", Check.INDEX, () -> x.swear(-1, 1));
        Check.refuses(x, "swear(1, 1)", Check.INDEX, () -> x.swear(1, 1));
        Check.refuses(x, "swear(0, 0)", Check.ARGUMENT, () -> x.swear(0, 0));
        Check.refuses(x, "swear(0, 13)", Check.ARGUMENT, () -> x.swear(0, 13));
        Check.same("undo", x.undo(), 2);
        Check.same("pump(0, 1)", x.pump(0, 1), 1);
    }

    private static void service() {
        PumpOaths x = new PumpOaths();
        Check.refuses(x, "service without pumps", Check.INDEX, () -> x.service(0, true));
        x.addPump(10, 5);
        x.addPump(10, 5);
        Check.refuses(x, "service(-1, true)", Check.INDEX, () -> x.service(-1, true));
        Check.refuses(x, "service(2, false)", Check.INDEX, () -> x.service(2, false));
        Check.refuses(x, "service of one in service", Check.STATE, () -> x.service(0, true));
        Check.holds("an off pump was not on", !x.service(0, false));
        values(x, 10000, 5000, 4000, 8000, 2, 0, 1);
        Check.same("pump(0, 2)", x.pump(0, 2), 2);
        Check.same("it keeps its place", x.pump(0, 3), 0);
        Check.refuses(x, "service of one out of service", Check.STATE, () -> x.service(0, false));
        Check.holds("one out of service was not on", !x.service(0, true));
        Check.same("pump(0, 2)", x.pump(0, 2), 0);
        x.setLevel(0);
        x.pass(1);
        Check.refuses(x, "service of one that is on", Check.STATE, () -> x.service(0, true));
        Check.holds("one that is on was on", x.service(0, false));
        values(x, 10000, 0, 4000, 8000, 2, 0, 1);
        Check.same("its starts stay", x.pump(0, 4), 1);
        Check.same("undo", x.undo(), 3);
        Check.same("pump(0, 2)", x.pump(0, 2), 1);
    }

    private static void passRefuses() {
        PumpOaths x = new PumpOaths();
        for (int minutes : new int[] {0, -1, 1441, HUGE, TINY}) {
            Check.refuses(x, "pass out of range", Check.ARGUMENT, () -> x.pass(minutes));
        }
        Check.same("pass(1440)", x.pass(1440), 0);
        Check.same("the time", x.value(7), 1440);
        Check.same("undo", x.undo(), 0);
        Check.same("the time", x.value(7), 0);
    }

    private static void timeEnds() {
        PumpOaths x = new PumpOaths();
        Texts.write(x, "m720;".repeat(20));
        for (int i = 0; i < 69; i++) {
            Check.same("carryOut of 14400 minutes", x.carryOut(), 20);
        }
        Check.same("the last carryOut stops", x.carryOut(), 8);
        Check.same("the time", x.value(7), 999360);
        Check.refuses(x, "pass(641)", Check.STATE, () -> x.pass(641));
        Check.refuses(x, "pass(1441)", Check.ARGUMENT, () -> x.pass(1441));
        Check.same("pass(640)", x.pass(640), 0);
        Check.same("the greatest time", x.value(7), 1000000);
        Check.same("its hour", x.value(8), 1000000 / 60 % 24);
        Check.refuses(x, "pass(1)", Check.STATE, () -> x.pass(1));
        x.setLevel(5000);
        Check.same("questions go beyond it", x.levelIn(10), 4800);
        Check.same("no order fits any more", Texts.carryOut(x, "m1;"), 0);
    }

    private static void waterMoves() {
        PumpOaths x = new PumpOaths();
        x.setLevel(30);
        x.set(1, 15);
        x.pass(1);
        values(x, 10000, 0);
        x.pass(1);
        Check.same("the leak takes what there is", x.water(4), 10);
        Check.same("the demand lacks", x.water(3), 20);
        x.setLevel(10);
        x.pass(1);
        Check.same("the demand comes before the leak", x.water(2), 20 + 10);
        Check.same("the leak got nothing", x.water(4), 10);
        Check.same("lacking", x.water(3), 20 + 10);
        Check.same("below at the end of three minutes", x.value(10), 3);

        PumpOaths y = new PumpOaths();
        y.setSize(8000);
        y.setBand(7999, 8000);
        y.setLevel(7990);
        y.addPump(100, 1);
        y.set(1, 3);
        y.pass(1);
        Check.same("all of it counts as pumped", y.water(0), 100);
        Check.same("overflow comes before the demand", y.water(1), 90);
        Check.same("taken", y.water(2), 20);
        Check.same("leaked", y.water(4), 3);
        Check.same("level", y.value(1), 7977);
        Check.same("below the low level at its end", y.value(10), 1);
        y.setBand(7000, 8000);
        Check.same("not counted again under the new band", y.value(10), 1);
        y.setBand(5000, 8000);
        y.set(1, 0);
        y.service(0, false);
        y.setLevel(5020);
        y.pass(1);
        values(y, 8000, 5000, 5000);
        Check.same("at the low level is not below it", y.value(10), 1);
        y.pass(1);
        Check.same("below it", y.value(10), 2);
    }

    private static void bandSwitches() {
        PumpOaths x = new PumpOaths();
        x.setDemand(0, 0);
        x.addPump(100, 12);
        x.setLevel(4000);
        x.pass(1);
        Check.same("at the low level none starts", x.value(5), 0);
        x.setLevel(3999);
        x.pass(1);
        Check.same("below it one starts", x.value(5), 1);
        Check.same("and pumps at once", x.value(1), 4099);
        x.setLevel(7900);
        x.pass(1);
        Check.same("it stays on up to the high level", x.value(1), 8000);
        Check.same("on", x.value(5), 1);
        x.pass(1);
        Check.same("at the high level it goes off before it pumps", x.value(1), 8000);
        Check.same("on", x.value(5), 0);
        pump(x, 0, 100, 12, 0, 0, 1, 1, 2, 0);
    }

    private static void stagesStartOneByOne() {
        PumpOaths x = new PumpOaths();
        x.set(0, 100);
        x.setDemand(0, 0);
        for (int i = 0; i < 4; i++) {
            x.addPump(1, 12);
        }
        x.setLevel(3899);
        x.pass(1);
        Check.same("one starts in a minute", x.value(5), 1);
        x.pass(10);
        Check.same("from 3900 on a second one is not wanted", x.value(5), 1);
        x.setLevel(3799);
        x.pass(1);
        Check.same("two are on", x.value(5), 2);
        x.setLevel(3799);
        x.pass(1);
        Check.same("three are wanted below low - 2 * step", x.value(5), 3);
        x.setLevel(0);
        x.pass(20);
        Check.same("no more than there are", x.value(5), 4);
    }

    private static void outOfServiceStillCountsAsWanted() {
        PumpOaths x = new PumpOaths();
        x.set(0, 5000);
        x.addPump(10, 1);
        x.addPump(20, 1);
        x.addPump(30, 1);
        x.service(0, false);
        x.setLevel(100);
        x.pass(5);
        Check.same("only one stage is below", x.value(5), 1);
        pump(x, 1, 20, 1, 1, 1, 1, 1, 5, 0);
        x.set(0, 1);
        x.pass(5);
        Check.same("one out of service never starts", x.value(5), 2);
        pump(x, 0, 10, 1, 2, 0, 0, 0, 0, 0);
        x.service(1, false);
        x.pass(1);
        Check.same("none is left to start", x.value(5), 1);
        Check.same("no oath was broken", x.value(9), 0);
    }

    private static void leadGoesOn() {
        PumpOaths x = new PumpOaths();
        x.addPump(10, 12);
        x.addPump(10, 12);
        x.addPump(10, 12);
        x.setLevel(9000);
        x.pass(5);
        Check.same("without a pump that goes off the lead stays", x.value(11), 0);
        x.setLevel(0);
        x.pass(1);
        x.setLevel(9000);
        x.pass(5);
        Check.same("the lead goes on once", x.value(11), 1);
        Check.same("places", x.pump(1, 3) + 10 * x.pump(2, 3) + 100 * x.pump(0, 3), 210);
        x.service(1, false);
        Check.same("one out of service may lead", x.value(11), 1);
        x.setLevel(0);
        x.pass(1);
        Check.same("the next of the order starts", x.pump(2, 2), 1);
        x.service(2, false);
        x.setLevel(9000);
        x.pass(1);
        Check.same("one taken out does not go off", x.value(11), 1);
        x.service(1, true);
        x.setLevel(0);
        x.pass(2);
        x.setLevel(9000);
        x.pass(1);
        Check.same("the lead goes on although it is another that stops", x.value(11), 2);
        x.addPump(10, 1);
        Check.same("a new one comes last", x.pump(3, 3), 3);
    }

    private static PumpOaths switching(int force) {
        PumpOaths x = new PumpOaths();
        x.setBand(100, 101);
        x.setLevel(50);
        x.setDemand(0, 200);
        x.set(2, force);
        x.addPump(400, 1);
        x.addPump(400, 2);
        return x;
    }

    private static void oathsAreKept() {
        PumpOaths x = switching(0);
        Check.same("without force no oath is broken", x.pass(60), 0);
        pump(x, 0, 400, 1, 0, 1, 1, 1, 1, 0);
        pump(x, 1, 400, 2, 0, 0, 2, 2, 2, 0);
        Check.same("the tank runs empty instead", x.value(1), 0);
        Check.same("entries", x.value(13), 0);
    }

    private static void oathsAreBroken() {
        // 50 and 250 and 50 by turns: a start in every even minute, one lead after the other.
        PumpOaths x = switching(1);
        Check.same("pass(6)", x.pass(6), 0);
        pump(x, 0, 400, 1, 0, 1, 1, 1, 1, 0);
        pump(x, 1, 400, 2, 0, 0, 2, 2, 2, 0);
        Check.same("pass(4)", x.pass(4), 2);
        pump(x, 0, 400, 1, 0, 1, 2, 2, 2, 1);
        pump(x, 1, 400, 2, 0, 0, 3, 3, 3, 1);
        Check.same("broken so far", x.value(9), 2);
        Check.same("the latest entry", x.entry(0, 0) * 100 + x.entry(0, 1) * 10 + x.entry(0, 2), 82);
        Check.same("the entry before", x.entry(1, 0) * 100 + x.entry(1, 1) * 10 + x.entry(1, 2), 163);
        x.swear(1, 12);
        Check.same("one that keeps its oath goes first", x.pass(2), 0);
        Check.same("although the other one was before it", x.pump(1, 4), 4);
        x.swear(1, 1);
        Check.same("to swear less breaks nothing", x.value(9), 2);
    }

    private static void hourBegins() {
        PumpOaths x = switching(1);
        x.setDemand(1, 200);
        x.pass(60);
        Check.same("starts of the first hour", x.pump(0, 4) + x.pump(1, 4), 30);
        Check.same("they stay until the next minute passes", x.value(8), 1);
        x.pass(1);
        Check.same("starts of the second hour", x.pump(0, 4) + x.pump(1, 4), 1);
        Check.same("starts so far", x.pump(0, 5) + x.pump(1, 5), 31);
        Check.same("broken so far", x.pump(0, 7) + x.pump(1, 7), 27);
        x.setLevel(50);
        x.setDemand(0, 0);
        Check.same("the demand is that of the hour", x.levelIn(1), 50 + 400 - 200);
        x.setDemand(1, 0);
        Check.same("the demand is that of the hour", x.levelIn(1), 50 + 400);
    }
}
