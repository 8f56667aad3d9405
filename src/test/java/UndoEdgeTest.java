import java.util.function.Consumer;
import java.util.function.Supplier;

/** Undo: which calls save a state, how many are saved, and what a saved state contains. */
public final class UndoEdgeTest {

    public static void main(String[] args) {
        atMostFour();
        oldestIsDroppedFirst();
        savedEvenWithoutAChange();
        savedByEachUndoable();
        notSavedByTheOthers();
        everythingComesBack();
        whatWasNotThereIsGoneAgain();
        allButTheText();
        undoIsNoUndoableCall();
        undoOfAPump();
        Check.close("UndoEdgeTest");
    }

    /** How many states are saved: as many undos go before one throws. */
    private static int saved(PumpOaths x) {
        for (int undos = 0; undos < 10; undos++) {
            if (Check.answer(x::undo).startsWith("throws")) {
                return undos;
            }
        }
        return 10;
    }

    /** "at most 4 states are saved" */
    private static void atMostFour() {
        for (int calls = 0; calls <= 9; calls++) {
            PumpOaths x = new PumpOaths();
            for (int call = 1; call <= calls; call++) {
                x.setLevel(call);
            }
            int kept = Math.min(4, calls);
            for (int left = kept - 1; left >= 0; left--) {
                Check.same("undo", x.undo(), left);
                Check.same("level", x.value(1), calls - kept + left == 0 ? 5000 : calls - kept + left);
            }
            Check.refuses(x, "undo after " + calls + " calls", Check.STATE, x::undo);
        }
    }

    /** "and the oldest is dropped first" */
    private static void oldestIsDroppedFirst() {
        PumpOaths x = new PumpOaths();
        for (int level = 1; level <= 4; level++) {
            x.setLevel(level);
        }
        Check.same("undo", x.undo(), 3);
        Check.same("undo", x.undo(), 2);
        for (int level = 11; level <= 13; level++) {
            x.setLevel(level);
        }
        int[] levels = {12, 11, 2, 1};
        for (int i = 0; i < 4; i++) {
            Check.same("undo", x.undo(), 3 - i);
            Check.same("level", x.value(1), levels[i]);
        }
        Check.refuses(x, "the state of a new object was dropped", Check.STATE, x::undo);
    }

    /** "saves the state from before the call, even if the call changes nothing" */
    private static void savedEvenWithoutAChange() {
        saves("setSize", x -> x.setSize(x.value(0)));
        saves("setBand", x -> x.setBand(x.value(2), x.value(3)));
        saves("setLevel", x -> x.setLevel(x.value(1)));
        for (int what = 0; what < 3; what++) {
            int which = what;
            saves("set", x -> x.set(which, x.setting(which)));
        }
        saves("setDemand", x -> x.setDemand(0, x.demand(0)));
        saves("swear", x -> x.swear(0, x.pump(0, 1)));
        saves("carryOut", x -> x.carryOut());
    }

    private static void savedByEachUndoable() {
        saves("setSize", x -> x.setSize(9000));
        saves("setBand", x -> x.setBand(1, 2));
        saves("setLevel", x -> x.setLevel(17));
        saves("set", x -> x.set(0, 17));
        saves("setDemand", x -> x.setDemand(23, 17));
        saves("addPump", x -> x.addPump(17, 7));
        saves("swear", x -> x.swear(0, 7));
        saves("service", x -> x.service(0, false));
        saves("pass", x -> x.pass(1440));
        saves("carryOut", x -> Texts.carryOut(x, "m7;m7;x0;d00=0;o0=5;"));
    }

    private static PumpOaths onePump() {
        PumpOaths x = new PumpOaths();
        x.addPump(10, 3);
        return x;
    }

    private static void saves(String call, Consumer<PumpOaths> action) {
        PumpOaths x = onePump();
        long before = onePump().digest();
        action.accept(x);
        Check.same(call + " saves one state", x.undo(), 1);
        x.clearText();
        Check.same(call + " is undone", x.digest(), before);
        Check.same("the state of the call before it", x.undo(), 0);
        Check.same("pumps", x.value(4), 0);
    }

    private static void savesNothing(String call, Consumer<PumpOaths> action) {
        PumpOaths x = onePump();
        action.accept(x);
        Check.same(call + " saves nothing", saved(x), 1);
        PumpOaths busy = Made.busy();
        action.accept(busy);
        Check.same("undo behind " + call, busy.undo(), 3);
        Check.same("the call that is undone", busy.value(7), 2913);
    }

    private static void notSavedByTheOthers() {
        savesNothing("pump", x -> x.pump(0, 0));
        savesNothing("demand", x -> x.demand(0));
        savesNothing("value", x -> x.value(0));
        savesNothing("setting", x -> x.setting(0));
        savesNothing("water", x -> x.water(0));
        savesNothing("nightLeak", x -> Check.answer(x::nightLeak));
        savesNothing("entry", x -> Check.answer(() -> x.entry(0, 0)));
        savesNothing("levelIn", x -> x.levelIn(1440));
        savesNothing("startsIn", x -> x.startsIn(0, 1440));
        savesNothing("oathFor", x -> x.oathFor(1440));
        savesNothing("emptyIn", x -> x.emptyIn());
        savesNothing("nextStart", x -> x.nextStart());
        savesNothing("honesty", x -> x.honesty());
        savesNothing("append", x -> x.append('m'));
        savesNothing("clearText", x -> x.clearText());
        savesNothing("carryOut of an error", x -> Check.holds("an error", Texts.carryOut(x, "m1;m") == -14));
        savesNothing("digest", x -> x.digest());
        savesNothing("a refused call", x -> Check.answer(() -> x.pass(0)));
    }

    /** "The saved state contains everything except the text." */
    private static void everythingComesBack() {
        comesBack("setSize", x -> x.setSize(19000));
        comesBack("setBand", x -> x.setBand(1, 2));
        comesBack("setLevel", x -> x.setLevel(11));
        comesBack("set step", x -> x.set(0, 61));
        comesBack("set leak", x -> x.set(1, 61));
        comesBack("set force", x -> x.set(2, 0));
        comesBack("setDemand", x -> x.setDemand(0, 11));
        comesBack("setDemand", x -> x.setDemand(23, 11));
        comesBack("swear", x -> x.swear(5, 1));
        comesBack("service", x -> x.service(0, false));
        comesBack("service", x -> x.service(4, true));
        comesBack("pass", x -> x.pass(1));
        comesBack("pass over the end of the night", x -> x.pass(400));
        comesBack("pass over a whole night", x -> x.pass(1440));
        comesBack("carryOut", x -> x.carryOut());
    }

    /** The call before it has saved as many states as there can be, so that all but the oldest one are left. */
    private static void comesBack(String call, Consumer<PumpOaths> action) {
        Supplier<PumpOaths> due = () -> {
            PumpOaths x = Made.busy();
            x.undo();
            return x;
        };
        Probe.same(call + " and undo", () -> {
            PumpOaths x = due.get();
            action.accept(x);
            Check.same("undo of " + call, x.undo(), 3);
            return x;
        }, due);
        Probe.sameNow(call + " and undo with four saved states", () -> {
            PumpOaths x = Made.busy();
            action.accept(x);
            x.undo();
            return x;
        }, Made::busy);
    }

    /** Pumps, starts, a log, a night: all that a new object does not have. */
    private static void whatWasNotThereIsGoneAgain() {
        Probe.same("undo back to a new object", () -> {
            PumpOaths x = new PumpOaths();
            x.addPump(400, 1);
            x.setBand(1, 2);
            Check.same("orders", Texts.carryOut(x, "m720;d00=999;m720;o0=2;m720;x0;m1;"), 7);
            Check.holds("a log", x.value(13) > 0);
            Check.same("a night", x.value(12), 1);
            x.clearText();
            x.setLevel(1);
            Check.same("undo", x.undo() + x.undo() + x.undo() + x.undo(), 3 + 2 + 1);
            return x;
        }, PumpOaths::new);
        PumpOaths x = Made.still();
        x.addPump(1, 1);
        for (int start = 1; start <= 5; start++) {
            Made.restart(x);
        }
        Check.same("entries", x.value(13), 4);
        Check.same("the last start", x.undo(), 3);
        Check.same("entries", x.value(13), 3);
        Check.same("the latest one", x.entry(0, 2), 4);
        Check.refuses(x, "the one that was undone", Check.INDEX, () -> x.entry(3, 0));
        Check.same("broken so far", x.value(9), 3);
    }

    private static void allButTheText() {
        PumpOaths x = new PumpOaths();
        Texts.write(x, "m1;");
        x.setLevel(1);
        x.append('m');
        Check.same("undo", x.undo(), 0);
        Check.same("what was appended since stays", x.append('2'), 5);
        x.append(';');
        Check.same("two orders", x.carryOut(), 2);
        Check.same("time", x.value(7), 3);
        x.clearText();
        Check.same("undo", x.undo(), 0);
        Check.same("what was emptied since stays empty", x.carryOut(), 0);
        Check.same("time", x.value(7), 0);
        Check.same("clearText", x.clearText(), 0);
    }

    private static void undoIsNoUndoableCall() {
        PumpOaths x = new PumpOaths();
        x.setLevel(1);
        x.setLevel(2);
        Check.same("undo", x.undo(), 1);
        Check.same("a second undo goes further back", x.undo(), 0);
        Check.same("level", x.value(1), 5000);
        Check.refuses(x, "no third undo", Check.STATE, x::undo);
    }

    /** A number that was undone is given again, and nothing of the pump that had it is left. */
    private static void undoOfAPump() {
        PumpOaths x = Made.still(5);
        x.set(0, 1);
        x.addPump(500, 1);
        x.setLevel(0);
        x.pass(60);
        x.service(5, false);
        Check.same("undo", x.undo() + x.undo() + x.undo() + x.undo(), 3 + 2 + 1);
        Check.same("pumps", x.value(4), 5);
        Check.same("addPump", x.addPump(7, 8), 5);
        int[] due = {7, 8, 0, 5, 0, 0, 0, 0};
        for (int what = 0; what < 8; what++) {
            Check.same("pump(5, " + what + ")", x.pump(5, what), due[what]);
        }
    }
}
