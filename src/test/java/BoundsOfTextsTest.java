/** Promises 16 to 18, sentence by sentence: the empty and the full text, each place of a fault. */
public final class BoundsOfTextsTest {
    private static final int BAD = Refused.BAD_VALUE;
    private static final int FULL = Refused.FULL;
    private static final int NOT_POSSIBLE = Refused.NOT_POSSIBLE;

    /** Fifteen levels, sixty characters. */
    private static final String LONGEST =
            "-1.0,1.1,1.2,1.3,1.4,1.5,1.6,1.7,1.8,1.9,2.0,2.1,2.2,2.3,2.4";

    public static void main(String[] args) {
        theLengthThen();
        sixtyCharacters();
        anyCharacter();
        typingIsNoAct();
        clearingTheEmptyText();
        clearingTheFullText();
        theTextIsEmptyThen();
        clearingIsNoAct();

        hourOfTheFirstLevel();
        theEmptyText();
        anEndAtEachPlace();
        eachCharacterAtEachPlace();
        theFirstOfSeveralFaults();
        aFaultAtTheLastPlace();
        aFaultIsAnError();
        toTheHour23();
        beyondTheHour23();
        theLowestLevel();
        theHighestLevel();
        anyOfThemIsTooLow();
        theOrderOfTheChecks();
        zeroWithASign();
        theOtherHoursStay();
        theTextStays();
        oneAct();
        Due.end();
    }

    private static FloodBarrier with(String text) {
        FloodBarrier x = new FloodBarrier();
        Due.write(x, text);
        return x;
    }

    private static int read(String text, int hour) {
        return with(text).readTides(hour);
    }

    // ---- promise 16

    private static void theLengthThen() {
        Due.sentence("16: returns the length of the text then");
        FloodBarrier x = new FloodBarrier();
        for (int length = 1; length <= 60; length++) {
            Due.is("type", x.type('5'), length);
            Due.is("count(16)", x.count(16), length);
        }
    }

    private static void sixtyCharacters() {
        Due.sentence("16: FULL if it has 60 characters");
        Due.is("the 60th", with(LONGEST.substring(0, 59)).type('4'), 60);
        Refused.is("a 61st", () -> with(LONGEST), x -> x.type('4'), FULL);
        Refused.is("a 61st, of any kind", Barriers::full, x -> x.type((char) 0), FULL);
        FloodBarrier x = with(LONGEST);
        x.type('x');
        Due.is("the text is as it was", x.readTides(0), 15);
    }

    private static void anyCharacter() {
        Due.sentence("16: character: any character");
        for (char character : new char[] {0, 1, 9, ' ', 127, 128, 255, 256, 0x7fff, 0xffff}) {
            FloodBarrier x = new FloodBarrier();
            Due.is("type", x.type(character), 1);
            Due.is("it stands in the text", x.readTides(0), -100);
            Due.is("one behind it", x.type('1'), 2);
            Due.is("clearText()", x.clearText(), 2);
        }
    }

    private static void typingIsNoAct() {
        Due.sentence("16: typing is no act");
        FloodBarrier x = new FloodBarrier();
        x.type('1');
        Due.is("states", x.count(15), 0);
        Due.is("undo()", x.undo(), Refused.NONE);
        Due.is("the text stays", x.count(16), 1);
    }

    // ---- promise 17

    private static void clearingTheEmptyText() {
        Due.sentence("17: returns the length that it had: 0");
        FloodBarrier x = Barriers.busy();
        x.clearText();
        String before = Look.told(x);
        Due.is("clearText()", x.clearText(), 0);
        Due.same("nothing else changes", Look.told(x), before);
    }

    private static void clearingTheFullText() {
        Due.sentence("17: returns the length that it had: 60");
        FloodBarrier x = Barriers.full();
        Due.is("clearText()", x.clearText(), 60);
        Due.is("there is room again", x.type('1'), 1);
    }

    private static void theTextIsEmptyThen() {
        Due.sentence("17: empties the text");
        FloodBarrier x = with("1.5");
        Due.is("clearText()", x.clearText(), 3);
        Due.is("count(16)", x.count(16), 0);
        Due.is("readTides(0)", x.readTides(0), -100);
        x.type('2');
        Due.is("nothing of the old text is behind it", x.readTides(0), -101);
    }

    private static void clearingIsNoAct() {
        Due.sentence("17: clearing is no act");
        FloodBarrier x = with("1.5");
        x.pass(1);
        x.clearText();
        Due.is("states", x.count(15), 1);
        Due.is("undo()", x.undo(), 0);
        Due.is("the text does not come back", x.count(16), 0);
    }

    // ---- promise 18

    private static void hourOfTheFirstLevel() {
        Due.sentence("18: hour: 0 to 23");
        for (int hour : new int[] {Integer.MIN_VALUE, -1, 24, 25, Integer.MAX_VALUE}) {
            Refused.is("hour " + hour, Barriers::busy, x -> x.readTides(hour), BAD);
        }
        for (int hour = 0; hour < 24; hour++) {
            FloodBarrier x = with("1.5");
            Due.is("hour " + hour, x.readTides(hour), 1);
            Due.is("tide(" + hour + ")", x.tide(hour), Due.bits(1.5));
        }
    }

    private static void theEmptyText() {
        Due.sentence("Texts: the length of the text if it ends too early (the empty text does)");
        Refused.is("empty", FloodBarrier::new, x -> x.readTides(0), -100);
        Refused.is("empty, hour 23", FloodBarrier::new, x -> x.readTides(23), -100);
    }

    private static void anEndAtEachPlace() {
        Due.sentence("Texts: or the length of the text if it ends too early");
        boolean[] complete = new boolean[LONGEST.length() + 1];
        for (int end = 4; end <= LONGEST.length(); end += 4) {
            complete[end] = true;
        }
        for (int end = 0; end <= LONGEST.length(); end++) {
            int due = complete[end] ? end / 4 : -100 - end;
            Due.is("the first " + end, read(LONGEST.substring(0, end), 0), due);
        }
        Due.is("60 characters", read(LONGEST.substring(1) + ",", 0), -160);
    }

    /** Behind each of these texts another kind of character may stand. */
    private static void eachCharacterAtEachPlace() {
        Due.sentence("Texts: the first character that is not allowed at its place");
        String[] texts = {"", "-", "5", "5.", "5.1", "5.1,", "5.1,-", "5.1,3", "5.1,-3.", "5.1,3.2"};
        for (String text : texts) {
            for (int i = 0; i < 65536; i++) {
                String longer = text + (char) i;
                Due.is("\"" + text + "\" and character " + i, read(longer, 0), due(longer));
            }
        }
    }

    /** What is due for a text the last character of which alone may be wrong. */
    private static int due(String text) {
        int last = text.length() - 1;
        char before = last == 0 ? ',' : text.charAt(last - 1);
        boolean levelEnds = last >= 2 && text.charAt(last - 2) == '.';
        String allowed;
        if (before == ',') {
            allowed = "-0123456789";
        } else if (before == '-' || before == '.') {
            allowed = "0123456789";
        } else {
            allowed = levelEnds ? "," : ".";
        }
        if (allowed.indexOf(text.charAt(last)) < 0) {
            return -100 - last;
        }
        boolean complete = before == '.';
        return complete ? text.split(",").length : -100 - text.length();
    }

    private static void theFirstOfSeveralFaults() {
        Due.sentence("Texts: the index, from 0, of the first character ..");
        Due.is("x at 0 and 2", read("x.x", 0), -100);
        Due.is("x at 3 and 5", read("5.1x3x", 0), -103);
        Due.is("a fault and an early end", read("5.1,,", 0), -104);
    }

    private static void aFaultAtTheLastPlace() {
        Due.sentence("Texts: at its place, the 60th");
        Due.is("x", read(LONGEST.substring(0, 59) + "x", 0), -159);
        Due.is("'.'", read(LONGEST.substring(0, 59) + ".", 0), -159);
        Due.is("a digit", read(LONGEST.substring(0, 59) + "9", 0), 15);
    }

    private static void aFaultIsAnError() {
        Due.sentence("18: -100 minus the fault of the text if it has one (which is an error)");
        for (String text : new String[] {"x", "1.0,x", "1.0,2.0,", "9.9,9.9,9.9,9", "-", "1.0 "}) {
            int due = read(text, 0);
            Due.that("\"" + text + "\" is a fault: " + due, due <= -100);
            Refused.is("\"" + text + "\"", () -> with(text), x -> x.readTides(3), due);
        }
    }

    private static void toTheHour23() {
        Due.sentence("18: FULL if they go beyond the hour 23: not yet");
        Due.is("one at 23", read("1.0", 23), 1);
        Due.is("two at 22", read("1.0,2.0", 22), 2);
        FloodBarrier x = with(LONGEST);
        Due.is("fifteen at 9", x.readTides(9), 15);
        Due.is("tide(8)", x.tide(8), 0L);
        Due.is("tide(9)", x.tide(9), Due.bits(-1.0));
        Due.is("tide(23)", x.tide(23), Due.bits(2.4));
    }

    private static void beyondTheHour23() {
        Due.sentence("18: FULL if they go beyond the hour 23");
        Refused.is("two at 23", () -> with("1.0,2.0"), x -> x.readTides(23), FULL);
        Refused.is("three at 22", () -> with("1.0,2.0,3.0"), x -> x.readTides(22), FULL);
        Refused.is("fifteen at 10", () -> with(LONGEST), x -> x.readTides(10), FULL);
        Refused.is("fifteen at 23", () -> with(LONGEST), x -> x.readTides(23), FULL);
    }

    private static void theLowestLevel() {
        Due.sentence("18: NOT_POSSIBLE if any of them is below -5.0");
        FloodBarrier y = with("-5.0");
        Due.is("-5.0", y.readTides(0), 1);
        Due.is("tide(0)", y.tide(0), Due.bits(-5.0));
        Due.is("-4.9", read("-4.9", 0), 1);
        Refused.is("-5.1", () -> with("-5.1"), x -> x.readTides(0), NOT_POSSIBLE);
        Refused.is("-6.0", () -> with("-6.0"), x -> x.readTides(0), NOT_POSSIBLE);
        Refused.is("-9.9", () -> with("-9.9"), x -> x.readTides(0), NOT_POSSIBLE);
    }

    private static void theHighestLevel() {
        Due.sentence("Texts: a level is perhaps \"-\", one digit, \".\", and one digit");
        FloodBarrier x = with("9.9");
        Due.is("9.9", x.readTides(0), 1);
        Due.is("tide(0)", x.tide(0), Due.bits(9.9));
        Due.is("5.1, which is not below -5.0", read("5.1", 0), 1);
        Due.is("10.0 has two digits", read("10.0", 0), -101);
    }

    private static void anyOfThemIsTooLow() {
        Due.sentence("18: NOT_POSSIBLE if any of them is below -5.0; changes nothing");
        Refused.is("the first", () -> with("-5.1,1.0,2.0"), x -> x.readTides(0), NOT_POSSIBLE);
        Refused.is("the middle", () -> with("1.0,-5.1,2.0"), x -> x.readTides(0), NOT_POSSIBLE);
        Refused.is("the last", () -> with("1.0,2.0,-5.1"), x -> x.readTides(0), NOT_POSSIBLE);
        String last = LONGEST.substring(5) + ",-5.1";
        Refused.is("the 15th", () -> with(last), x -> x.readTides(9), NOT_POSSIBLE);
        FloodBarrier x = with("-5.1");
        x.readTides(0);
        Due.write(x, "1.0");
        Due.is("a text behind a refused one", x.readTides(0), 1);
    }

    private static void theOrderOfTheChecks() {
        Due.sentence("18: BAD_VALUE; the fault; FULL; NOT_POSSIBLE, in this order");
        Refused.is("hour 24, a fault", () -> with("x"), x -> x.readTides(24), BAD);
        Refused.is("hour -1, too low", () -> with("-9.0"), x -> x.readTides(-1), BAD);
        Refused.is("hour 24, the empty text", FloodBarrier::new, x -> x.readTides(24), BAD);
        Refused.is("a fault, too many", () -> with("1.0,2.0,"), x -> x.readTides(23), -108);
        Refused.is("a fault, too low", () -> with("-9.0,"), x -> x.readTides(0), -105);
        Refused.is("too many, too low", () -> with("-9.0,1.0"), x -> x.readTides(23), FULL);
    }

    private static void zeroWithASign() {
        Due.sentence("Texts: (double) v / 10.0, where v is the whole number of its two digits");
        FloodBarrier x = new FloodBarrier();
        x.setTide(0, Due.bits(1.0));
        x.setTide(0, Due.bits(-0.0));
        Due.write(x, "-0.0");
        Due.is("-0.0", x.readTides(0), 1);
        Due.is("v is 0, so the level is 0.0", x.tide(0), 0L);
        Due.write(x, "-0.1,0.1");
        Due.is("-0.1,0.1", x.readTides(0), 2);
        Due.is("-0.1", x.tide(0), Due.bits(-0.1));
        Due.is("0.1, the sign is gone", x.tide(1), Due.bits(0.1));
    }

    private static void theOtherHoursStay() {
        Due.sentence("18: sets the tides of an hour of the day and of those behind it");
        FloodBarrier x = with("1.0,2.0");
        Barriers.setTides(x, 4.0);
        Due.is("readTides(5)", x.readTides(5), 2);
        for (int hour = 0; hour < 24; hour++) {
            double due = hour == 5 ? 1.0 : hour == 6 ? 2.0 : 4.0;
            Due.is("tide(" + hour + ")", x.tide(hour), Due.bits(due));
        }
    }

    private static void theTextStays() {
        Due.sentence("18: by the text, which stays");
        FloodBarrier x = with("1.0,2.0");
        Due.is("readTides(0)", x.readTides(0), 2);
        Due.is("count(16)", x.count(16), 7);
        Due.is("readTides(22)", x.readTides(22), 2);
        Due.is("tide(23)", x.tide(23), Due.bits(2.0));
        Due.is("one more character", x.type(','), 8);
        Due.is("readTides(0)", x.readTides(0), -108);
    }

    private static void oneAct() {
        Due.sentence("18: this is one act");
        FloodBarrier x = with(LONGEST);
        Due.is("readTides(0)", x.readTides(0), 15);
        Due.is("states", x.count(15), 1);
        Due.is("the same again is an act, too", x.readTides(0), 15);
        Due.is("states", x.count(15), 2);
        Due.is("undo()", x.undo(), 1);
        Due.is("tide(14)", x.tide(14), Due.bits(2.4));
        Due.is("undo()", x.undo(), 0);
        for (int hour = 0; hour < 24; hour++) {
            Due.is("tide(" + hour + ")", x.tide(hour), 0L);
        }
    }
}
