/** Every TEXT of up to 5 bytes out of some that stand for all kinds of bytes, against the reference. */
public final class SmallTextsTest {
    private static final char[] BYTES = {'0', '1', '2', '7', '/', '#', ' ', '\n', '?'};
    private static final int LONGEST = 5;
    private static final Check CHECK = new Check();

    public static void main(String[] args) {
        spellAll("");
        CHECK.end();
    }

    private static void spellAll(String text) {
        readBoth(text);
        for (int i = 0; i < BYTES.length && text.length() < LONGEST; i++) {
            spellAll(text + BYTES[i]);
        }
    }

    private static void readBoth(String text) {
        TuningTables tables = new TuningTables();
        Reference reference = new Reference();
        for (int at = 0; at < text.length(); at++) {
            tables.sign(text.charAt(at));
            reference.sign(text.charAt(at));
        }
        CHECK.due("read() of '" + text + "'", tables.read(), reference.read());
        CHECK.due("place() of '" + text + "'", tables.place(), reference.place());
        CHECK.due("steps() of '" + text + "'", tables.steps(), reference.steps());
        for (int step = 1; step <= reference.steps(); step++) {
            CHECK.due("exponent(" + step + ", 0) of '" + text + "'", tables.exponent(step, 0), reference.exponent(step, 0));
            CHECK.due("exponent(" + step + ", 3) of '" + text + "'", tables.exponent(step, 3), reference.exponent(step, 3));
        }
    }
}
