import java.util.function.LongSupplier;

/** Long runs of calls on the class and on the model, from numbers that are the same every time. */
public final class ModelTest {

    private static final int RUNS = 1500;
    /** The document allows 512 calls of an object; a text takes some eighty of them, and the last look fifteen. */
    private static final int CALLS = 512 - 100;
    private static final int MOST_COMPLAINTS = 20;

    private static long seed;
    private static int calls;
    private static int complaints;

    public static void main(String[] args) {
        for (int run = 0; run < RUNS && complaints < MOST_COMPLAINTS; run++) {
            seed = run * 7919L + 1;
            run(run);
        }
        Check.close("ModelTest");
    }

    private static int below(int bound) {
        seed = seed * 6364136223846793005L + 1442695040888963407L;
        return (int) ((seed >>> 33) % bound);
    }

    private static int from(int least, int greatest) {
        return least + below(greatest - least + 1);
    }

    /** Mostly in the range, now and then at its ends, beside it or far off. */
    private static int about(int least, int greatest) {
        switch (below(12)) {
            case 0: return least;
            case 1: return greatest;
            case 2: return below(3) > 0 ? from(least, greatest) : least - 1;
            case 3: return below(3) > 0 ? from(least, greatest) : greatest + 1;
            case 4:
                return below(8) > 0 ? from(least, greatest) : below(2) == 0 ? Integer.MIN_VALUE : Integer.MAX_VALUE;
            default: return from(least, greatest);
        }
    }

    private static void compare(int run, int call, String name, LongSupplier real, LongSupplier model) {
        calls++;
        String got = Check.answer(real);
        String due = Check.answer(model);
        if (!got.equals(due)) {
            complaints++;
        }
        Check.holds("run " + run + ", call " + call + ": " + name + ": " + got + " = " + due, got.equals(due));
    }

    private static void run(int run) {
        PumpOaths x = new PumpOaths();
        Model m = new Model();
        // A third of the runs has a narrow band and a strong demand, so that oaths break.
        boolean narrow = run % 3 == 0;
        calls = 0;
        int call = 0;
        while (calls < CALLS && complaints < MOST_COMPLAINTS) {
            step(run, call, narrow, x, m);
            call++;
            if (call % 4 == 0) {
                compare(run, call, "digest", x::digest, m::digest);
            }
        }
        compare(run, call, "digest", x::digest, m::digest);
        for (int i = 0; i < 14; i++) {
            int what = i;
            compare(run, call, "value", () -> x.value(what), () -> m.value(what));
        }
    }

    private static void step(int run, int call, boolean narrow, PumpOaths x, Model m) {
        int kind = below(100);
        if (kind < 40) {
            station(run, call, narrow, x, m);
        } else if (kind < 62) {
            question(run, call, x, m);
        } else if (kind < 80) {
            value(run, call, x, m);
        } else if (kind < 84) {
            compare(run, call, "undo", x::undo, m::undo);
        } else if (kind < 98) {
            text(run, call, x, m);
        } else {
            int b = about(0, 127);
            compare(run, call, "append", () -> x.append(b), () -> m.append(b));
        }
    }

    private static void station(int run, int call, boolean narrow, PumpOaths x, Model m) {
        int pump = about(0, Math.max(0, m.value(4) - 1));
        switch (below(14)) {
            case 0 -> {
                int a = about(100, below(2) == 0 ? 100000 : 12000);
                compare(run, call, "setSize " + a, () -> x.setSize(a), () -> m.setSize(a));
            }
            case 1 -> {
                int a = narrow ? about(1, 300) : about(1, m.value(0));
                int b = narrow ? a + about(1, 50) : about(1, m.value(0));
                compare(run, call, "setBand", () -> x.setBand(a, b), () -> m.setBand(a, b));
            }
            case 2 -> {
                int a = narrow ? about(0, 500) : about(0, m.value(0));
                compare(run, call, "setLevel", () -> x.setLevel(a), () -> m.setLevel(a));
            }
            case 3 -> {
                int a = about(0, 2);
                int b = a == 0 ? about(1, narrow ? 100 : 5000) : a == 1 ? about(0, 100) : below(4) == 0 ? about(0, 1) : 1;
                compare(run, call, "set", () -> x.set(a, b), () -> m.set(a, b));
            }
            case 4, 5 -> {
                int a = about(0, 23);
                int b = about(0, below(2) == 0 ? 1000 : 200);
                compare(run, call, "setDemand", () -> x.setDemand(a, b), () -> m.setDemand(a, b));
            }
            case 6, 7 -> {
                int a = about(1, 500);
                int b = about(1, 12);
                compare(run, call, "addPump", () -> x.addPump(a, b), () -> m.addPump(a, b));
            }
            case 8 -> {
                int b = about(1, 12);
                compare(run, call, "swear", () -> x.swear(pump, b), () -> m.swear(pump, b));
            }
            case 9 -> {
                boolean in = below(2) == 0;
                compare(run, call, "service", () -> x.service(pump, in) ? 1 : 0, () -> m.service(pump, in));
            }
            default -> {
                int a = about(1, below(3) == 0 ? 1440 : 90);
                compare(run, call, "pass " + a, () -> x.pass(a), () -> m.pass(a));
            }
        }
    }

    private static void question(int run, int call, PumpOaths x, Model m) {
        int pump = about(0, Math.max(0, m.value(4) - 1));
        int minutes = about(0, below(2) == 0 ? 1440 : 100);
        switch (below(6)) {
            case 0 -> compare(run, call, "levelIn", () -> x.levelIn(minutes), () -> m.levelIn(minutes));
            case 1 -> compare(run, call, "startsIn", () -> x.startsIn(pump, minutes), () -> m.startsIn(pump, minutes));
            case 2 -> compare(run, call, "oathFor " + minutes, () -> x.oathFor(minutes), () -> m.oathFor(minutes));
            case 3 -> compare(run, call, "emptyIn", x::emptyIn, m::emptyIn);
            case 4 -> compare(run, call, "nextStart", x::nextStart, m::nextStart);
            default -> compare(run, call, "honesty", () -> Double.doubleToLongBits(x.honesty()),
                    () -> Double.doubleToLongBits(m.honesty()));
        }
    }

    private static void value(int run, int call, PumpOaths x, Model m) {
        int pump = about(0, Math.max(0, m.value(4) - 1));
        int what = about(0, 7);
        int hour = about(0, 23);
        int number = about(0, 13);
        switch (below(7)) {
            case 0 -> compare(run, call, "pump", () -> x.pump(pump, what), () -> m.pump(pump, what));
            case 1 -> compare(run, call, "demand", () -> x.demand(hour), () -> m.demand(hour));
            case 2 -> compare(run, call, "value", () -> x.value(number), () -> m.value(number));
            case 3 -> compare(run, call, "setting", () -> x.setting(what), () -> m.setting(what));
            case 4 -> compare(run, call, "water", () -> x.water(what), () -> m.water(what));
            case 5 -> compare(run, call, "nightLeak", x::nightLeak, m::nightLeak);
            default -> compare(run, call, "entry", () -> x.entry(number, what), () -> m.entry(number, what));
        }
    }

    private static String order() {
        return switch (below(6)) {
            case 0, 1 -> "m" + pad(about(1, below(4) == 0 ? 720 : 60), below(4)) + ";";
            case 2 -> "o" + below(6) + "=" + pad(about(1, 12), below(3)) + ";";
            case 3 -> "x" + below(3) + ";";
            case 4 -> "y" + below(3) + ";";
            default -> "d" + pad(about(0, 23), 2) + "=" + pad(about(0, 1000), below(5)) + ";";
        };
    }

    private static String pad(int number, int digits) {
        StringBuilder padded = new StringBuilder("" + Math.floorMod(number, 100000));
        while (padded.length() < digits) {
            padded.insert(0, '0');
        }
        return padded.toString();
    }

    /** Writes some orders, spoils them now and then, and carries them out. */
    private static void text(int run, int call, PumpOaths x, Model m) {
        StringBuilder orders = new StringBuilder();
        for (int i = below(6); i >= 0; i--) {
            orders.append(order());
        }
        if (below(3) == 0) {
            int place = below(orders.length());
            switch (below(3)) {
                case 0 -> orders.deleteCharAt(place);
                case 1 -> orders.insert(place, "mxyod;=0123456789 az/:".charAt(below(22)));
                default -> orders.setLength(place);
            }
        }
        if (below(4) > 0) {
            compare(run, call, "clearText", x::clearText, m::clearText);
        }
        for (int i = 0; i < orders.length(); i++) {
            int b = orders.charAt(i);
            compare(run, call, "append", () -> x.append(b), () -> m.append(b));
        }
        compare(run, call, "carryOut of " + orders, x::carryOut, m::carryOut);
    }
}
