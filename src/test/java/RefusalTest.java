import java.util.ArrayList;
import java.util.List;
import java.util.function.Consumer;
import java.util.function.Supplier;

/** "A call that throws an exception changes nothing. If several exceptions apply, the one that is listed first is thrown." */
public final class RefusalTest {

    private record Refused(String call, Class<? extends RuntimeException> due, Consumer<PumpOaths> action) {
    }

    public static void main(String[] args) {
        refusedByEach();
        refusedByANewOne();
        refusedByABusyOne();
        refusedByAFullText();
        refusedAtTheEndOfTheTime();
        syntaxErrorChangesNothing();
        firstListedIsThrown();
        Check.close("RefusalTest");
    }

    private static void add(List<Refused> all, String call, Class<? extends RuntimeException> due, Consumer<PumpOaths> action) {
        all.add(new Refused(call, due, action));
    }

    /** What every object refuses. */
    private static List<Refused> always() {
        List<Refused> all = new ArrayList<>();
        for (int wrong : new int[] {-1, Made.TINY, Made.HUGE}) {
            add(all, "setSize", Check.ARGUMENT, x -> x.setSize(wrong));
            add(all, "set", Check.ARGUMENT, x -> x.set(wrong, 1));
            add(all, "set", Check.ARGUMENT, x -> x.set(0, wrong));
            add(all, "setDemand", Check.INDEX, x -> x.setDemand(wrong, 1));
            add(all, "setDemand", Check.ARGUMENT, x -> x.setDemand(1, wrong));
            add(all, "addPump", Check.ARGUMENT, x -> x.addPump(wrong, 1));
            add(all, "addPump", Check.ARGUMENT, x -> x.addPump(1, wrong));
            add(all, "swear", Check.INDEX, x -> x.swear(wrong, 1));
            add(all, "service", Check.INDEX, x -> x.service(wrong, false));
            add(all, "pass", Check.ARGUMENT, x -> x.pass(wrong));
            add(all, "pump", Check.INDEX, x -> x.pump(wrong, 0));
            add(all, "demand", Check.INDEX, x -> x.demand(wrong));
            add(all, "value", Check.ARGUMENT, x -> x.value(wrong));
            add(all, "setting", Check.ARGUMENT, x -> x.setting(wrong));
            add(all, "water", Check.ARGUMENT, x -> x.water(wrong));
            add(all, "entry", Check.INDEX, x -> x.entry(wrong, 0));
            add(all, "levelIn", Check.ARGUMENT, x -> x.levelIn(wrong));
            add(all, "startsIn", Check.INDEX, x -> x.startsIn(wrong, 1));
            add(all, "oathFor", Check.ARGUMENT, x -> x.oathFor(wrong));
            add(all, "append", Check.ARGUMENT, x -> x.append(wrong));
        }
        add(all, "setBand without distance", Check.ARGUMENT, x -> x.setBand(7, 7));
        add(all, "setBand(0, 5)", Check.ARGUMENT, x -> x.setBand(0, 5));
        add(all, "setBand above the size", Check.STATE, x -> x.setBand(1, 100001));
        add(all, "setLevel(-1)", Check.ARGUMENT, x -> x.setLevel(-1));
        add(all, "setLevel above the size", Check.STATE, x -> x.setLevel(100001));
        add(all, "pass(0)", Check.ARGUMENT, x -> x.pass(0));
        add(all, "oathFor(0)", Check.ARGUMENT, x -> x.oathFor(0));
        return all;
    }

    private static void probe(Refused refused, Supplier<PumpOaths> made) {
        Probe.same(refused.call, () -> {
            PumpOaths x = made.get();
            Check.throwing(refused.call, refused.due, () -> refused.action.accept(x));
            return x;
        }, made);
    }

    private static void refusedByEach() {
        for (Refused refused : always()) {
            probe(refused, PumpOaths::new);
            probe(refused, Made::busy);
        }
    }

    private static void refusedByANewOne() {
        List<Refused> all = new ArrayList<>();
        add(all, "setSize below the band", Check.STATE, x -> x.setSize(7999));
        add(all, "swear", Check.INDEX, x -> x.swear(0, 1));
        add(all, "service", Check.INDEX, x -> x.service(0, false));
        add(all, "pump", Check.INDEX, x -> x.pump(0, 0));
        add(all, "startsIn", Check.INDEX, x -> x.startsIn(0, 0));
        add(all, "entry", Check.INDEX, x -> x.entry(0, 0));
        add(all, "nightLeak", Check.STATE, x -> x.nightLeak());
        add(all, "undo", Check.STATE, x -> x.undo());
        for (Refused refused : all) {
            probe(refused, PumpOaths::new);
        }
    }

    private static void refusedByABusyOne() {
        PumpOaths x = Made.busy();
        Check.same("its pumps", x.value(4), 6);
        Check.same("its log", x.value(13), 12);
        Check.same("its nights", x.value(12), 1);
        Check.same("its pump 4", x.pump(4, 2), 2);
        Check.holds("some are on", x.value(5) > 0);
        List<Refused> all = new ArrayList<>();
        add(all, "setSize below the band", Check.STATE, y -> y.setSize(319));
        add(all, "a seventh pump", Check.STATE, y -> y.addPump(1, 1));
        add(all, "swear", Check.INDEX, y -> y.swear(6, 1));
        add(all, "swear", Check.ARGUMENT, y -> y.swear(5, 13));
        add(all, "service", Check.INDEX, y -> y.service(6, false));
        add(all, "in service already", Check.STATE, y -> y.service(0, true));
        add(all, "out of service already", Check.STATE, y -> y.service(4, false));
        add(all, "pump", Check.ARGUMENT, y -> y.pump(5, 8));
        add(all, "entry", Check.INDEX, y -> y.entry(12, 0));
        add(all, "entry", Check.ARGUMENT, y -> y.entry(11, 3));
        add(all, "startsIn", Check.INDEX, y -> y.startsIn(6, 1));
        add(all, "startsIn", Check.ARGUMENT, y -> y.startsIn(5, 1441));
        for (Refused refused : all) {
            probe(refused, Made::busy);
        }
    }

    private static PumpOaths fullText() {
        PumpOaths x = new PumpOaths();
        x.addPump(10, 1);
        Texts.write(x, "m1;".repeat(32) + "m10;");
        return x;
    }

    private static void refusedByAFullText() {
        probe(new Refused("append to a full text", Check.STATE, x -> x.append('m')), RefusalTest::fullText);
        probe(new Refused("append of no byte", Check.ARGUMENT, x -> x.append(128)), RefusalTest::fullText);
    }

    private static void refusedAtTheEndOfTheTime() {
        Supplier<PumpOaths> made = () -> Made.late(999990);
        probe(new Refused("pass over the end", Check.STATE, x -> x.pass(11)), made);
    }

    /** "if there is a syntax error (then nothing changes)" */
    private static void syntaxErrorChangesNothing() {
        for (String text : new String[] {"m9;x0;d05=3;o1=2;q", "m9;x0;m0;", "m9;m", "q"}) {
            Supplier<PumpOaths> written = () -> {
                PumpOaths x = Made.busy();
                Texts.write(x, text);
                return x;
            };
            Probe.same("a syntax error in " + text, () -> {
                PumpOaths x = written.get();
                Check.holds("a syntax error in " + text, x.carryOut() <= -10);
                return x;
            }, written);
        }
    }

    private static void firstListedIsThrown() {
        PumpOaths x = Made.busy();
        x.pass(1);
        Check.refuses(x, "setSize: out of range before the band", Check.ARGUMENT, () -> x.setSize(99));
        Check.refuses(x, "setSize: out of range before the band", Check.ARGUMENT, () -> x.setSize(Made.TINY));
        Check.refuses(x, "setBand: low before the size", Check.ARGUMENT, () -> x.setBand(0, 20001));
        Check.refuses(x, "setBand: high before the size", Check.ARGUMENT, () -> x.setBand(20001, 20001));
        Check.refuses(x, "setBand: high before the size", Check.ARGUMENT, () -> x.setBand(Made.HUGE, 20001));
        Check.refuses(x, "setDemand: the hour before the demand", Check.INDEX, () -> x.setDemand(24, 1001));
        Check.refuses(x, "setDemand: the hour before the demand", Check.INDEX, () -> x.setDemand(-1, -1));
        Check.refuses(x, "addPump: the capacity before the sixth pump", Check.ARGUMENT, () -> x.addPump(501, 1));
        Check.refuses(x, "addPump: the oath before the sixth pump", Check.ARGUMENT, () -> x.addPump(1, 13));
        Check.refuses(x, "swear: the pump before the oath", Check.INDEX, () -> x.swear(6, 0));
        Check.refuses(x, "swear: the pump before the oath", Check.INDEX, () -> x.swear(-1, 13));
        Check.refuses(x, "service: the pump before its state", Check.INDEX, () -> x.service(6, true));
        Check.refuses(x, "service: the pump before its state", Check.INDEX, () -> x.service(-1, false));
        Check.refuses(x, "pump: the pump before what", Check.INDEX, () -> x.pump(6, 8));
        Check.refuses(x, "pump: the pump before what", Check.INDEX, () -> x.pump(-1, -1));
        Check.refuses(x, "entry: the index before what", Check.INDEX, () -> x.entry(12, 3));
        Check.refuses(x, "entry: the index before what", Check.INDEX, () -> x.entry(-1, -1));
        Check.refuses(x, "startsIn: the pump before the minutes", Check.INDEX, () -> x.startsIn(6, 1441));
        Check.refuses(x, "startsIn: the pump before the minutes", Check.INDEX, () -> x.startsIn(-1, -1));

        PumpOaths full = fullText();
        Check.refuses(full, "append: the value before the full text", Check.ARGUMENT, () -> full.append(128));
        Check.refuses(full, "append: the value before the full text", Check.ARGUMENT, () -> full.append(-1));

        PumpOaths late = Made.late(1000000);
        Check.refuses(late, "pass: the minutes before the time", Check.ARGUMENT, () -> late.pass(1441));
        Check.refuses(late, "pass: the minutes before the time", Check.ARGUMENT, () -> late.pass(Made.HUGE));
        Check.refuses(late, "pass: the minutes before the time", Check.ARGUMENT, () -> late.pass(0));
    }
}
