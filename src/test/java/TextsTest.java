/** Promises 16 to 18: texts. */
public final class TextsTest {
    private static final int BAD = -2;
    private static final int FULL = -3;
    private static final int NOT_POSSIBLE = -4;

    /** Stands in a list of faults where a text has none. */
    private static final int FINE = -1;

    public static void main(String[] args) {
        promise16();
        promise17();
        promise18();
        faults();
        theOrderOfTheErrors();
        everyLevel();
        Due.end();
    }

    private static int read(String text, int hour) {
        FloodBarrier x = new FloodBarrier();
        Due.write(x, text);
        return x.readTides(hour);
    }

    private static void promise16() {
        FloodBarrier x = new FloodBarrier();
        for (int i = 0; i < 60; i++) {
            Due.is("16: type", x.type((char) (i * 1100)), i + 1);
        }
        Due.is("16: a 61st", x.type('1'), FULL);
        Due.is("16: count(16)", x.count(16), 60);
        Due.is("16: no act", x.count(15), 0);
        x.clearText();
        Due.is("16: behind a text that was cleared", x.type('\uffff'), 1);
    }

    private static void promise17() {
        FloodBarrier x = new FloodBarrier();
        Due.is("17: empty", x.clearText(), 0);
        Due.write(x, "1.5");
        Due.is("17: three", x.clearText(), 3);
        Due.is("17: empty again", x.clearText(), 0);
        Due.is("17: count(16)", x.count(16), 0);
        Due.is("17: no act", x.count(15), 0);
        Due.is("17: the old text is gone", x.readTides(0), -100);
    }

    private static void promise18() {
        FloodBarrier x = new FloodBarrier();
        Due.write(x, "1.5,-0.3,0.0,-0.0,9.9,-5.0");
        Due.is("18: readTides(18)", x.readTides(18), 6);
        double[] due = {1.5, -0.3, 0.0, 0.0, 9.9, -5.0};
        for (int i = 0; i < due.length; i++) {
            Due.is("18: tide(" + (18 + i) + ")", x.tide(18 + i), Due.bits(due[i]));
        }
        Due.is("18: the hour before", x.tide(17), 0);
        Due.is("18: the text stays", x.count(16), 26);
        Due.is("18: one act", x.count(15), 1);
        Due.is("18: once more, all the same", x.readTides(18), 6);
        Due.is("18: that is an act, too", x.count(15), 2);
        x.undo();
        x.undo();
        Due.is("18: undone", x.tide(18), 0);
        Due.is("18: the text is no part of a state", x.count(16), 26);
        x.setTide(5, Due.bits(1.0));
        x.setTide(5, Due.bits(-0.0));
        Due.write(x, "0.0");
        Due.is("18: 0.0 for -0.0", x.readTides(5), 1);
        Due.is("18: with its own bits", x.tide(5), 0);
        Due.write(x, "7.0,7.1,7.2");
        x.readTides(10);
        Due.write(x, "6.0");
        Due.is("18: one level behind a longer text", x.readTides(10), 1);
        Due.is("18: that level", x.tide(10), Due.bits(6.0));
        Due.is("18: the one behind it", x.tide(11), Due.bits(7.1));
        x.readTides(13);
        Due.is("18: none behind it", x.tide(14), 0);
        Due.write(x, "-0.0,0.1,0.2,0.3,0.4,0.5,0.6,0.7,0.8,0.9,1.0,1.1,1.2,1.3,1.4");
        Due.is("18: sixty characters", x.count(16), 60);
        Due.is("18: fifteen levels", x.readTides(9), 15);
        Due.is("18: the last", x.tide(23), Due.bits(1.4));
        Due.is("18: the 14th", x.tide(22), Due.bits(1.3));
    }

    private static void faults() {
        String[] texts = {"", "x", "-", "--", "5", "-5", "-x", "5,", "5.", "5.,", "5.1", "5.12",
            "5.1,", "5.1,,", "5.1,-", "5.1,-3", "5.1,3.", "5.1,3.3", "5.1,3.3 ", " 5.1", "+5.1",
            "5.1-", "5..1", ".5", "5.1.", "5.1,3.x", "5.1,3-", "/.1", ":.1", "1./", "1.:",
            "\u0661.1", "\uff11.1", "5.1;3.3", "55.1"};
        int[] faults = {0, 0, 1, 1, 1, 2, 1, 1, 2, 2, FINE, 3,
            4, 4, 5, 6, 6, FINE, 7, 0, 0,
            3, 2, 0, 3, 6, 5, 0, 0, 2, 2,
            0, 0, 3, 1};
        for (int i = 0; i < texts.length; i++) {
            int due = faults[i] == FINE ? (texts[i].length() > 3 ? 2 : 1) : -100 - faults[i];
            Due.is("18: \"" + texts[i] + "\"", read(texts[i], 0), due);
        }
        StringBuilder full = new StringBuilder();
        for (int i = 0; i < 15; i++) {
            full.append("1.0,");
        }
        Due.is("18: ends too early at 60", read(full.toString(), 0), -160);
    }

    private static void theOrderOfTheErrors() {
        Due.is("18: hour -1", read("x", -1), BAD);
        Due.is("18: hour 24", read("1.0", 24), BAD);
        Due.is("18: a fault before FULL", read("1.0,1.0,x", 23), -108);
        Due.is("18: a fault before NOT_POSSIBLE", read("-9.0,x", 0), -105);
        Due.is("18: FULL", read("1.0,1.0", 23), FULL);
        Due.is("18: FULL before NOT_POSSIBLE", read("1.0,-5.1", 23), FULL);
        Due.is("18: just to hour 23", read("1.0,1.0", 22), 2);
        Due.is("18: NOT_POSSIBLE", read("-5.1", 23), NOT_POSSIBLE);
        Due.is("18: any of them", read("1.0,-9.9,2.0", 0), NOT_POSSIBLE);
        Due.is("18: -5.0 is possible", read("-5.0", 23), 1);
        FloodBarrier x = new FloodBarrier();
        Due.write(x, "1.0,-5.1");
        x.readTides(0);
        Due.is("18: an error changes nothing", x.tide(0), 0);
        Due.is("18: an error is no act", x.count(15), 0);
    }

    private static void everyLevel() {
        for (int v = -50; v < 100; v++) {
            FloodBarrier x = new FloodBarrier();
            String text = (v < 0 ? "-" : "") + Math.abs(v) / 10 + "." + Math.abs(v) % 10;
            x.setTide(0, Due.bits(3.21));
            Due.write(x, text);
            Due.is("18: " + text, x.readTides(0), 1);
            Due.is("18: bits of " + text, x.tide(0), Due.bits((double) v / 10.0));
            Due.is("18: level of " + text, x.level(0), (double) v / 10.0);
        }
    }
}
