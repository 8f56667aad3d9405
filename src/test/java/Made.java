/** Makes objects that stand at an edge of the document. None of them has used half of its 512 calls. */
final class Made {

    static final int HUGE = Integer.MAX_VALUE;
    static final int TINY = Integer.MIN_VALUE;

    /** Below it a pump is wanted in a new object. */
    static final int LOW = 4000;
    static final int HIGH = 8000;

    private Made() {
    }

    static void passTo(PumpOaths x, int time) {
        for (int left = time - x.value(7); left > 0; left -= 1440) {
            x.pass(Math.min(1440, left));
        }
    }

    static void demandAlways(PumpOaths x, int demand) {
        for (int hour = 0; hour < 24; hour++) {
            x.setDemand(hour, demand);
        }
    }

    /** Nothing but pumps, a leak and calls change its level. */
    static PumpOaths still() {
        PumpOaths x = new PumpOaths();
        demandAlways(x, 0);
        return x;
    }

    /** Still, with as many pumps of one liter and the oath 12. */
    static PumpOaths still(int pumps) {
        PumpOaths x = still();
        addPumps(x, pumps, 1, 12);
        return x;
    }

    static void addPumps(PumpOaths x, int pumps, int capacity, int oath) {
        for (int i = 0; i < pumps; i++) {
            x.addPump(capacity, oath);
        }
    }

    /** Lets a minute pass at this level, and tells how many pumps are on behind it. */
    static int onAt(PumpOaths x, int level) {
        x.setLevel(level);
        x.pass(1);
        return x.value(5);
    }

    /** Lets two minutes pass: in the first one the pumps go off, in the second one the next pump starts. */
    static int restart(PumpOaths x) {
        int broken = startsAt(x, HIGH);
        return broken + startsAt(x, LOW - 1);
    }

    private static int startsAt(PumpOaths x, int level) {
        x.setLevel(level);
        return x.pass(1);
    }

    /** At a time from 993600 on, which no 512 calls of pass could reach. */
    static PumpOaths late(int time) {
        PumpOaths x = new PumpOaths();
        Texts.write(x, "m720;".repeat(20));
        for (int i = 0; i < 69; i++) {
            x.carryOut();
        }
        x.clearText();
        passTo(x, time);
        return x;
    }

    /** In the middle of its third night, with all that an object can hold: pumps, a log, a leak, a text, saved states. */
    static PumpOaths busy() {
        PumpOaths x = new PumpOaths();
        x.setSize(20000);
        x.setBand(300, 320);
        x.setLevel(50);
        x.set(0, 60);
        x.set(1, 7);
        demandAlways(x, 190);
        for (int pump = 0; pump < 6; pump++) {
            x.addPump(60 + 40 * pump, 1 + pump);
        }
        x.service(4, false);
        x.pass(1440);
        x.pass(1440);
        x.pass(33);
        x.swear(3, 9);
        x.service(1, x.pump(1, 2) == 2);
        x.setLevel(17);
        x.pass(1);
        Texts.write(x, "m15;o0=3;x5;d07=1;");
        return x;
    }
}
