/** Promises 24 to 26: the text and its orders. */
public final class TextTest {

    public static void main(String[] args) {
        append();
        clearText();
        ordersAreCarriedOut();
        ordersStop();
        syntaxErrors();
        everyByteAtEveryPlace();
        savesOneState();
        Check.close("TextTest");
    }

    private static void append() {
        PumpOaths x = new PumpOaths();
        Check.refuses(x, "append(-1)", Check.ARGUMENT, () -> x.append(-1));
        Check.refuses(x, "append(128)", Check.ARGUMENT, () -> x.append(128));
        for (int i = 1; i <= 100; i++) {
            Check.same("append", x.append(i == 1 ? 0 : 127), i);
        }
        Check.refuses(x, "a byte too many", Check.STATE, () -> x.append(0));
        Check.refuses(x, "a wrong byte too many", Check.ARGUMENT, () -> x.append(128));
        Check.refuses(x, "append saves nothing", Check.STATE, () -> x.undo());
    }

    private static void clearText() {
        PumpOaths x = new PumpOaths();
        Check.same("clearText()", x.clearText(), 0);
        Texts.write(x, "m1;m2;");
        Check.same("clearText()", x.clearText(), 6);
        Check.same("clearText()", x.clearText(), 0);
        Check.same("append begins anew", x.append('m'), 1);
    }

    private static void ordersAreCarriedOut() {
        PumpOaths x = new PumpOaths();
        Check.same("no orders", x.carryOut(), 0);
        x.addPump(10, 3);
        x.addPump(10, 3);
        Check.same("one of each", Texts.carryOut(x, "m001;o0=12;x1;d05=0999;d23=0;m720;y1;o1=01;"), 8);
        Check.same("time", x.value(7), 721);
        Check.same("oath", x.pump(0, 1), 12);
        Check.same("oath", x.pump(1, 1), 1);
        Check.same("back in service", x.pump(1, 2), 0);
        Check.same("demand(5)", x.demand(5), 999);
        Check.same("demand(23)", x.demand(23), 0);
        Check.same("the text stays", x.clearText(), 43);
        Check.same("numbers at their ends", Texts.carryOut(x, "d00=1000;d09=0000;m1;o0=1;o1=12;"), 5);
        Check.same("demand(0)", x.demand(0), 1000);
        Check.same("demand(9)", x.demand(9), 0);
        Check.same("33 orders", Texts.carryOut(x, "m1;".repeat(33)), 33);
        Check.same("time", x.value(7), 755);
        Check.same("a byte behind them", Texts.carryOut(x, "m1;".repeat(33) + "m"), -110);
        Check.same("a wrong byte behind them", Texts.carryOut(x, "m1;".repeat(33) + "q"), -109);
        Check.same("time", x.value(7), 755);
    }

    private static void ordersStop() {
        PumpOaths x = new PumpOaths();
        x.addPump(10, 3);
        Check.same("in service already", Texts.carryOut(x, "m1;y0;m1;"), 1);
        Check.same("out of service already", Texts.carryOut(x, "x0;x0;m1;"), 1);
        Check.same("no such pump to bring back", Texts.carryOut(x, "m1;m1;y1;"), 2);
        Check.same("no such pump to take out", Texts.carryOut(x, "x5;m1;"), 0);
        Check.same("no such pump to swear", Texts.carryOut(x, "d01=1;o1=1;m1;"), 1);
        Check.same("time", x.value(7), 3);
        Check.same("demand(1)", x.demand(1), 1);
        Check.same("out of service", x.pump(0, 2), 2);
        x.service(0, true);
        x.setLevel(0);
        x.pass(1);
        Check.same("on", x.pump(0, 2), 1);
        Check.same("one that is on goes out and comes back", Texts.carryOut(x, "x0;y0;"), 2);
        Check.same("off", x.pump(0, 2), 0);
    }

    private static void wrong(String text, int position) {
        PumpOaths x = new PumpOaths();
        for (int i = 0; i < 6; i++) {
            x.addPump(10, 3);
        }
        Texts.write(x, text);
        long before = x.digest();
        Check.same("carryOut of " + text, x.carryOut(), -10 - position);
        Check.same("the digest after " + text, x.digest(), before);
    }

    private static void syntaxErrors() {
        String[] texts = {
            "m", "m;", "m0;", "m000;", "m721;", "m721", "m721x", "m7210", "m0721;", "m72x", "m 1;", "m1 ;", "m72", "m0", "m0x",
            "o", "o6", "o6=1;", "o0", "o0;", "o0=", "o0=;", "o0=0;", "o0=00;", "o0=13", "o0=13;", "o0=001;", "o0=1x", "o0=1", "o0=99x",
            "x", "x6;", "xx", "x0", "x00;", "y", "y9", "y5", "y5=", "x/", "x:",
            "d", "dx", "d3", "d3x", "d30", "d24=1;", "d99", "d1;", "d1", "d23", "d231", "d23;", "d23=", "d23=;", "d23=1001", "d23=1001;",
            "d23=10000", "d23=9999x", "d23=0", "d/0", "d0:", "d00=1x",
            "M1;", ";", " ", "m1;;", "m1;m2;z", "m1;o0=1;x0;y0;d00=0;m0;", "1", "=",
        };
        int[] positions = {
            1, 1, 1, 1, 1, 1, 1, 4, 4, 3, 1, 2, 3, 1, 1,
            1, 1, 1, 2, 2, 3, 3, 3, 3, 3, 3, 5, 4, 4, 3,
            1, 1, 1, 2, 2, 1, 1, 2, 2, 1, 1,
            1, 1, 2, 2, 1, 1, 1, 2, 2, 3, 3, 3, 4, 4, 4, 4,
            8, 4, 5, 1, 2, 5,
            0, 0, 0, 3, 6, 21, 0, 0,
        };
        Check.same("as many positions as texts", positions.length, texts.length);
        for (int i = 0; i < texts.length; i++) {
            wrong(texts[i], positions[i]);
        }
        wrong("m1;".repeat(32) + "m1", 98);
        wrong("d00=0000;".repeat(11) + "d", 100);
    }

    /** Puts every byte at every place of right orders: only the bytes that are listed can stand there. */
    private static void everyByteAtEveryPlace() {
        String order = "o1=5;";
        String[] allowed = {"o", "012345", "=", "123456789", ";0123456789"};
        for (int place = 0; place < order.length(); place++) {
            for (int value = 0; value < 128; value++) {
                String text = order.substring(0, place) + (char) value;
                boolean stands = allowed[place].indexOf(value) >= 0;
                if (place == 0) {
                    stands = "moxyd".indexOf(value) >= 0;
                }
                int position = stands ? place + 1 : place;
                if (text.equals(order)) {
                    continue;
                }
                // A number out of its range is told at its first digit.
                boolean outOfRange = place == 3 && value == '0'
                        || place == 4 && stands && value != ';' && (value > '2' || order.charAt(3) > '1');
                wrong(text, outOfRange ? 3 : position);
            }
        }
    }

    private static void savesOneState() {
        PumpOaths x = new PumpOaths();
        x.addPump(10, 3);
        x.undo();
        Check.same("no orders", x.carryOut(), 0);
        Check.same("saved without an order", x.undo(), 0);
        Check.same("none can be carried out", Texts.carryOut(x, "x0;"), 0);
        Check.same("saved all the same", x.undo(), 0);
        Check.same("three orders", Texts.carryOut(x, "m5;d00=7;m5;"), 3);
        Check.same("one saved state", x.undo(), 0);
        Check.same("time", x.value(7), 0);
        Check.same("demand(0)", x.demand(0), 20);
        Check.same("the text is not undone", x.clearText(), 12);
        Check.same("a syntax error", Texts.carryOut(x, "m5;q"), -13);
        Check.refuses(x, "a syntax error saves nothing", Check.STATE, () -> x.undo());
    }
}
