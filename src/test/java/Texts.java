/** Writes whole texts, since the class takes single bytes. */
final class Texts {

    private Texts() {
    }

    static void write(PumpOaths object, String text) {
        object.clearText();
        for (int i = 0; i < text.length(); i++) {
            object.append(text.charAt(i));
        }
    }

    static int carryOut(PumpOaths object, String text) {
        write(object, text);
        return object.carryOut();
    }
}
