import java.util.function.Consumer;
import java.util.function.Supplier;

/** The text of at most 100 bytes, its numbers at the ends of their ranges, and the syntax error position. */
public final class TextEdgeTest {

    private static final int RIGHT = -1;
    /** All that is no digit and stands beside one that is, or at an end of the bytes. */
    private static final String NO_DIGITS = (char) 0 + "/:;= xmq" + (char) 127;

    public static void main(String[] args) {
        lengths();
        fullText();
        fullTextOfOrders();
        noOrders();
        shorterTextAfterALongerOne();
        minutes();
        oaths();
        pumps();
        hours();
        demands();
        outOfRangeBeforeAnyByte();
        outOfRangeBeforeADigit();
        outOfRangeAtTheEnd();
        hourAtItsSecondDigit();
        textEndsTooEarly();
        firstByteThatCannotStand();
        everyByteEverywhere();
        ordersDoWhatTheCallsDo();
        ordersStopAtTheFirstThatThrows();
        orderAtTheEndOfTheTime();
        earlierOrdersAreNotCarriedOut();
        oneSavedState();
        textStays();
        Check.close("TextEdgeTest");
    }

    /** With three saved states, so that the digest tells whether one more is saved. */
    private static PumpOaths sixPumps() {
        PumpOaths x = new PumpOaths();
        Made.addPumps(x, 6, 10, 3);
        x.setLevel(5000);
        x.undo();
        return x;
    }

    /** Checks the syntax error position; a text without an error is carried out whole. */
    private static void position(String text, int due) {
        PumpOaths x = sixPumps();
        Texts.write(x, text);
        long before = x.digest();
        int orders = 0;
        for (char sign : text.toCharArray()) {
            orders += sign == ';' ? 1 : 0;
        }
        Check.same("carryOut of " + text, x.carryOut(), due == RIGHT ? orders : -10 - due);
        Check.holds("a change after " + text + " only without an error", (x.digest() == before) == (due != RIGHT));
    }

    private static void right(String... texts) {
        for (String text : texts) {
            position(text, RIGHT);
        }
    }

    private static void wrongAt(int due, String... texts) {
        for (String text : texts) {
            position(text, due);
        }
    }

    /** "The text has at most 100 bytes." */
    private static void lengths() {
        PumpOaths x = new PumpOaths();
        Check.same("clearText of no text", x.clearText(), 0);
        for (int round = 0; round < 2; round++) {
            for (int length = 1; length <= 100; length++) {
                Check.same("append", x.append(length % 128), length);
            }
            Check.refuses(x, "byte 101", Check.STATE, () -> x.append(0));
            Check.refuses(x, "byte 101", Check.STATE, () -> x.append(127));
            Check.same("clearText of the longest text", x.clearText(), 100);
        }
        Check.same("clearText again", x.clearText(), 0);
        Check.same("the first byte", x.append(';'), 1);
        Check.same("clearText of one byte", x.clearText(), 1);
    }

    private static void fullText() {
        String orders = "m1;".repeat(33);
        right(orders);
        wrongAt(100, orders + "m", orders + "x", orders + "d");
        wrongAt(99, orders + ";", orders + "1", orders + (char) 0);
        wrongAt(0, "q" + orders, ";" + orders);
        wrongAt(100, "m1;".repeat(32) + "m123", "m1;".repeat(32) + "d12=");
        wrongAt(99, "m1;".repeat(32) + "m12x", "m1;".repeat(32) + "d123");
        wrongAt(97, "m1;".repeat(32) + "m721", "m1;".repeat(32) + "d24=");
    }

    private static void fullTextOfOrders() {
        PumpOaths x = sixPumps();
        Check.same("33 orders in 100 bytes", Texts.carryOut(x, "m1;".repeat(32) + "m10;"), 33);
        Check.same("the last one was carried out", x.value(7), 42);
        Check.same("20 orders in 100 bytes", Texts.carryOut(x, "m001;".repeat(19) + "m720;"), 20);
        Check.same("the last one was carried out", x.value(7), 42 + 19 + 720);
        Check.same("the longest orders", Texts.carryOut(x, "d00=0000;".repeat(10) + "d01=00007;"), -10 - 98);
        Check.same("the longest orders", Texts.carryOut(x, "d00=0000;".repeat(10) + "d01=0007;"), 11);
        Check.same("the last one was carried out", x.demand(1), 7);
    }

    /** "there may be no orders" */
    private static void noOrders() {
        PumpOaths x = new PumpOaths();
        long before = x.digest();
        Check.same("no orders", x.carryOut(), 0);
        Check.same("one more saved state", x.digest(), before + 1);
        Check.same("undo", x.undo(), 0);
    }

    /** "Empties the text": nothing of a longer text stands behind a shorter one. */
    private static void shorterTextAfterALongerOne() {
        for (String order : new String[] {"m12;", "o0=12;", "x0;", "d00=1000;"}) {
            for (int length = 0; length < order.length(); length++) {
                PumpOaths x = sixPumps();
                Texts.write(x, order + "m1;");
                Check.same("two orders", x.carryOut(), 2);
                String left = order.substring(0, length);
                Check.same("what is left of " + order, Texts.carryOut(x, left), length == 0 ? 0 : -10 - length);
                Check.same("time", x.value(7), order.equals("m12;") ? 13 : 1);
                Check.same("one order less", Texts.carryOut(x, "m5;"), 1);
                Check.same("time", x.value(7), order.equals("m12;") ? 18 : 6);
            }
        }
    }

    /** "m" and a number of minutes of one to three digits, 1 to 720 */
    private static void minutes() {
        right("m1;", "m01;", "m001;", "m9;", "m10;", "m010;", "m99;", "m100;", "m719;", "m720;");
        wrongAt(1, "m0;", "m00;", "m000;", "m721;", "m722;", "m800;", "m999;", "m;", "m=1;", "m-1;", "m 1;");
        wrongAt(4, "m0000;", "m0001;", "m0720;", "m7200;", "m1000;", "m9999;");
        wrongAt(2, "m1", "m1=", "m1 ;", "m1m");
        PumpOaths x = new PumpOaths();
        Check.same("the ends", Texts.carryOut(x, "m001;m720;"), 2);
        Check.same("time", x.value(7), 721);
    }

    /** "o", a pump digit 0 to 5, "=" and a number of one or two digits, 1 to 12 */
    private static void oaths() {
        right("o0=1;", "o0=01;", "o0=9;", "o0=09;", "o0=10;", "o5=11;", "o5=12;");
        wrongAt(3, "o0=0;", "o0=00;", "o0=13;", "o0=14;", "o0=20;", "o0=99;", "o0=;", "o0==1;", "o0= 1;");
        wrongAt(5, "o0=000;", "o0=001;", "o0=012;", "o0=120;", "o0=130;", "o0=999;", "o0=12=");
        wrongAt(2, "o0", "o0;", "o01;", "o00=1;", "o01=1;", "o5 =1;");
        wrongAt(1, "o6=1;", "o9=1;", "o/=1;", "o:=1;", "o=1;", "o;");
        wrongAt(4, "o0=1", "o0=1=", "o0=1:", "o0=1/");
        PumpOaths x = sixPumps();
        Check.same("the ends", Texts.carryOut(x, "o0=01;o5=12;"), 2);
        Check.same("oath of 0", x.pump(0, 1), 1);
        Check.same("oath of 5", x.pump(5, 1), 12);
        Check.same("oath of 4", x.pump(4, 1), 3);
    }

    /** "x" or "y" and a pump digit 0 to 5 */
    private static void pumps() {
        right("x0;", "x5;", "x0;y0;", "x5;y5;", "x0;x1;x2;x3;x4;x5;y0;y1;y2;y3;y4;y5;");
        for (String letter : new String[] {"x", "y"}) {
            wrongAt(1, letter, letter + ";", letter + "6;", letter + "9;", letter + "/;", letter + ":;", letter + "=0;");
            wrongAt(2, letter + "0", letter + "5", letter + "00;", letter + "05;", letter + "0=1;", letter + "5 ;");
        }
        PumpOaths x = sixPumps();
        Check.same("the ends", Texts.carryOut(x, "x0;x5;x3;y3;"), 4);
        int[] due = {2, 0, 0, 0, 0, 2};
        for (int pump = 0; pump < 6; pump++) {
            Check.same("mode of " + pump, x.pump(pump, 2), due[pump]);
        }
    }

    /** "d", an hour of two digits, 00 to 23 */
    private static void hours() {
        right("d00=1;", "d01=1;", "d09=1;", "d10=1;", "d19=1;", "d20=1;", "d23=1;");
        wrongAt(1, "d24=1;", "d25=1;", "d29=1;", "d30=1;", "d99=1;", "d=1;", "d;", "d/0=1;", "d:0=1;");
        wrongAt(2, "d0=1;", "d2=1;", "d9=1;", "d0/=1;", "d0:=1;", "d2;");
        wrongAt(3, "d000=1;", "d023=1;", "d230=1;", "d001;", "d00;", "d00 =1;");
        PumpOaths x = new PumpOaths();
        Check.same("the ends", Texts.carryOut(x, "d00=1;d23=2;"), 2);
        for (int hour = 0; hour < 24; hour++) {
            Check.same("demand of " + hour, x.demand(hour), hour == 0 ? 1 : hour == 23 ? 2 : 20);
        }
    }

    /** "=", and a number of one to four digits, 0 to 1000 */
    private static void demands() {
        right("d00=0;", "d00=00;", "d00=000;", "d00=0000;", "d00=9;", "d00=99;", "d00=0999;", "d00=999;", "d00=1000;");
        wrongAt(4, "d00=1001;", "d00=1002;", "d00=1010;", "d00=2000;", "d00=9999;", "d00=;", "d00==1;", "d00=-1;");
        wrongAt(8, "d00=00000;", "d00=00001;", "d00=01000;", "d00=10000;", "d00=99999;", "d00=1000=");
        wrongAt(5, "d00=0", "d00=0=", "d00=7/", "d00=7:", "d00=7 ;");
        PumpOaths x = new PumpOaths();
        Check.same("the ends", Texts.carryOut(x, "d07=1000;d08=0000;"), 2);
        Check.same("demand(7)", x.demand(7), 1000);
        Check.same("demand(8)", x.demand(8), 0);
    }

    /** "it is the index of its first digit, found when a byte that is no digit, whichever it is, ... follows it" */
    private static void outOfRangeBeforeAnyByte() {
        for (char sign : NO_DIGITS.toCharArray()) {
            wrongAt(1, "m0" + sign, "m00" + sign, "m000" + sign, "m721" + sign, "m999" + sign);
            wrongAt(3, "o0=0" + sign, "o5=00" + sign, "o0=13" + sign, "o0=99" + sign);
            wrongAt(4, "d00=1001" + sign, "d23=9999" + sign);
            wrongAt(7, "m1;m1;m0" + sign, "x0;y0;m721" + sign);
        }
    }

    /** "(a digit too many, too)": a number goes on as long as digits follow it */
    private static void outOfRangeBeforeADigit() {
        for (char digit = '0'; digit <= '9'; digit++) {
            wrongAt(4, "m721" + digit, "m000" + digit + ";", "m720" + digit);
            wrongAt(5, "o0=13" + digit, "o0=00" + digit + ";", "o0=12" + digit);
            wrongAt(8, "d00=1001" + digit, "d00=0000" + digit + ";", "d00=1000" + digit);
            wrongAt(2, "x0" + digit, "y5" + digit);
            wrongAt(3, "d23" + digit);
        }
    }

    /** "or the end of the text, follows it" */
    private static void outOfRangeAtTheEnd() {
        wrongAt(1, "m0", "m00", "m000", "m721", "m999");
        wrongAt(3, "o0=0", "o0=00", "o0=13", "o0=99");
        wrongAt(4, "d00=1001", "d00=9999");
    }

    /** "for an hour, when its second digit is there" */
    private static void hourAtItsSecondDigit() {
        wrongAt(1, "d24", "d30", "d99", "d24x", "d240", "d24=");
        wrongAt(2, "d2", "d3", "d9", "d3x", "d3=", "d9;", "d3" + (char) 0);
        wrongAt(3, "d23", "d00", "d19x");
    }

    /** "or the length of the text if the text ends too early" */
    private static void textEndsTooEarly() {
        for (String order : new String[] {"m1;", "m72;", "m720;", "o5=1;", "o0=12;", "x0;", "y5;", "d00=0;", "d23=1000;"}) {
            for (int length = 1; length < order.length(); length++) {
                wrongAt(length, order.substring(0, length));
                wrongAt(6 + length, "x0;y0;" + order.substring(0, length));
            }
            right(order.charAt(0) == 'y' ? "x5;" + order : order);
        }
    }

    /** "The syntax error position is the index of the first byte that cannot stand where it stands" */
    private static void firstByteThatCannotStand() {
        wrongAt(0, ";", " m1;", "M1;", "X0;", "n1;", "l1;", "p0;", "w0;", "z0;", "c00=1;", "e00=1;", "0;", "=");
        wrongAt(3, "m1;;", "m1; m1;", "x0;0;", "m1;q", "m1;q;m0;m721;");
        wrongAt(1, "mm0;", "m;m0;", "xm0;", "ox=0;");
        wrongAt(2, "m1m0;", "o0m721;");
        wrongAt(1, "m0;q", "m721;;");
    }

    private static String name(String text) {
        StringBuilder name = new StringBuilder();
        for (char sign : text.toCharArray()) {
            name.append(sign > ' ' && sign < 127 ? "" + sign : "[" + (int) sign + "]");
        }
        return name.toString();
    }

    private static void likeTheModel(String text) {
        PumpOaths x = sixPumps();
        Model model = new Model();
        for (int pump = 0; pump < 6; pump++) {
            model.addPump(10, 3);
        }
        Texts.write(x, text);
        for (int i = 0; i < text.length(); i++) {
            model.append(text.charAt(i));
        }
        Check.same("carryOut of " + name(text), x.carryOut(), model.carryOut());
    }

    private static void everyByteEverywhere() {
        for (String text : new String[] {"m20;", "m720;", "m721;", "o5=12;", "o0=0;", "x0;", "y5;", "d23=1000;", "d19=0;m0;"}) {
            for (int place = 0; place <= text.length(); place++) {
                String before = text.substring(0, place);
                String behind = text.substring(place);
                for (char sign = 0; sign < 128; sign++) {
                    likeTheModel(before + sign);
                    likeTheModel(before + sign + behind);
                    likeTheModel(before + sign + (behind.isEmpty() ? "" : behind.substring(1)));
                }
            }
        }
    }

    private static PumpOaths busyWith(String text) {
        PumpOaths x = Made.busy();
        Texts.write(x, text);
        return x;
    }

    private static void like(String text, int orders, Consumer<PumpOaths> calls) {
        Probe.sameNow(text, () -> {
            PumpOaths x = busyWith(text);
            Check.same("carryOut of " + text, x.carryOut(), orders);
            x.clearText();
            return x;
        }, () -> {
            PumpOaths x = busyWith("");
            calls.accept(x);
            return x;
        });
    }

    private static void ordersDoWhatTheCallsDo() {
        like("m1;", 1, x -> x.pass(1));
        like("m720;", 1, x -> x.pass(720));
        like("m007;m1;m09;", 3, x -> x.pass(17));
        like("o0=12;", 1, x -> x.swear(0, 12));
        like("o5=01;", 1, x -> x.swear(5, 1));
        like("x0;", 1, x -> x.service(0, false));
        like("y4;", 1, x -> x.service(4, true));
        like("x5;y5;", 2, x -> {
            x.service(5, false);
            x.service(5, true);
        });
        like("d00=0;", 1, x -> x.setDemand(0, 0));
        like("d23=1000;", 1, x -> x.setDemand(23, 1000));
        like("m33;x0;o4=7;m44;d01=555;y0;", 6, x -> {
            x.pass(33);
            x.service(0, false);
            x.swear(4, 7);
            x.pass(44);
            x.setDemand(1, 555);
            x.service(0, true);
        });
    }

    /** "up to the first one that would throw an exception" */
    private static void ordersStopAtTheFirstThatThrows() {
        like("y0;m9;", 0, x -> { });
        like("x4;m9;", 0, x -> { });
        like("m9;x4;m9;", 1, x -> x.pass(9));
        like("m9;y0;m9;", 1, x -> x.pass(9));
        like("m9;m9;x0;x0;m9;", 3, x -> {
            x.pass(18);
            x.service(0, false);
        });
        like("y4;y4;", 1, x -> x.service(4, true));
        for (int count = 0; count < 6; count++) {
            PumpOaths x = new PumpOaths();
            Made.addPumps(x, count, 10, 3);
            Check.same("o of no such pump", Texts.carryOut(x, "m1;o" + count + "=5;m1;"), 1);
            Check.same("x of no such pump", Texts.carryOut(x, "m1;x" + count + ";m1;"), 1);
            Check.same("y of no such pump", Texts.carryOut(x, "m1;y" + count + ";m1;"), 1);
            Check.same("y of no such pump", Texts.carryOut(x, "y5;m1;"), 0);
            Check.same("time", x.value(7), 3);
            if (count > 0) {
                String last = "" + (count - 1);
                Check.same("the last pump", Texts.carryOut(x, "o" + last + "=5;x" + last + ";y" + last + ";"), 3);
            }
        }
    }

    private static void orderAtTheEndOfTheTime() {
        PumpOaths x = Made.late(1000000 - 10);
        Check.same("one minute too many", Texts.carryOut(x, "d00=1;m11;m1;"), 1);
        Check.same("time", x.value(7), 1000000 - 10);
        Check.same("the last minutes", Texts.carryOut(x, "m10;d00=2;m1;d00=3;"), 2);
        Check.same("time", x.value(7), 1000000);
        Check.same("demand(0)", x.demand(0), 2);
        Check.same("not one minute", Texts.carryOut(x, "m1;"), 0);
        Check.same("saved all the same", x.undo(), 3);
        Check.same("time", x.value(7), 1000000);
    }

    /** "-10 minus the syntax error position if there is a syntax error (then nothing changes)" */
    private static void earlierOrdersAreNotCarriedOut() {
        for (String text : new String[] {"m9;x0;d05=3;o1=2;q", "m9;m0;", "m720;m", "d00=7;d24=1;"}) {
            PumpOaths x = sixPumps();
            Texts.write(x, text);
            long before = x.digest();
            Check.holds("an error in " + text, x.carryOut() <= -10);
            Check.same("the digest after " + text, x.digest(), before);
            Check.same("demand(0)", x.demand(0), 20);
            Check.same("time", x.value(7), 0);
            Check.same("the text stays", x.clearText(), text.length());
        }
    }

    /** "Undoable (one saved state, also if no order is carried out), if there is no syntax error." */
    private static void oneSavedState() {
        for (String text : new String[] {"", "m5;", "m5;x0;m5;o0=7;d00=1;m720;", "y0;", "x1;", "m5;y0;"}) {
            Supplier<PumpOaths> made = () -> {
                PumpOaths x = new PumpOaths();
                x.addPump(9, 3);
                Texts.write(x, text);
                return x;
            };
            Probe.same("undo of " + text, () -> {
                PumpOaths x = made.get();
                x.carryOut();
                Check.same("undo of " + text, x.undo(), 1);
                return x;
            }, made);
        }
        PumpOaths x = new PumpOaths();
        Check.same("an error", Texts.carryOut(x, "m5;m"), -14);
        Check.refuses(x, "an error saves no state", Check.STATE, x::undo);
    }

    /** "The text stays as it is." */
    private static void textStays() {
        PumpOaths x = sixPumps();
        Texts.write(x, "m5;x0;m5;");
        Check.same("three orders", x.carryOut(), 3);
        Check.same("they can be carried out again, as far as they go", x.carryOut(), 1);
        Check.same("time", x.value(7), 15);
        Check.same("bytes are appended behind them", x.append('q'), 10);
        Check.same("an error behind them", x.carryOut(), -19);
        Check.same("undo", x.undo(), 3);
        Check.same("the text is not undone", x.clearText(), 10);
    }
}
