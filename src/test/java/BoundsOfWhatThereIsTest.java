/** Promises 1 to 10, sentence by sentence: first values, each bound from both sides, what is full. */
public final class BoundsOfWhatThereIsTest {
    private static final int UNKNOWN = Refused.UNKNOWN;
    private static final int BAD = Refused.BAD_VALUE;
    private static final int FULL = Refused.FULL;
    private static final int NONE = Refused.NONE;

    private static final int LEAST_INT = Integer.MIN_VALUE;
    private static final int MOST_INT = Integer.MAX_VALUE;
    private static final long CREST = Barriers.CREST;

    /** The bits of some NaNs: quiet and signalling ones, with and without a sign. */
    private static final long[] NO_NUMBERS = {0x7ff8000000000000L, 0x7ff0000000000001L,
        0x7fffffffffffffffL, 0xfff8000000000000L, 0xfff0000000000001L, -1L};

    public static void main(String[] args) {
        theConstants();
        nothingIsThereAtFirst();
        firstValues();
        firstWaterAndTides();
        firstHistoryAndText();
        nothingThatIsNotThereIsTold();

        widthOfASection();
        hoursOfASection();
        lifeOfASection();
        crestThatIsNoNumber();
        crestFromZeroToTen();
        crestMinusZero();
        anyWrongArgumentIsEnough();
        eightSections();
        valuesComeBeforeRoomForSections();
        roomAgainAfterUndo();

        weightOfADistrict();
        sixDistricts();
        waterOfAStream();
        fourStreams();
        powerOfAPump();
        waterOfAPump();
        sixPumps();

        streamThatIsNotThere();
        waterThatAStreamIsSetTo();
        streamIsSoAlready();
        pumpThatIsNotThere();
        pumpIsSoAlready();
        howManyPumpsAreOn();
        settingThatIsNotThere();
        areaFromTo();
        limitFromTo();
        settingIsSoAlready();

        alarmThatIsNoNumber();
        alarmFromTo();
        alarmIsEqualAlready();
        alarmWithItsOwnBits();
        hourOfATide();
        tideThatIsNoNumber();
        tideFromTo();
        tideIsEqualAlready();
        tideWithItsOwnBits();
        Due.end();
    }

    // ---- promise 1

    private static void theConstants() {
        Due.sentence("The constants");
        Due.is("UNKNOWN", FloodBarrier.UNKNOWN, -1);
        Due.is("BAD_VALUE", FloodBarrier.BAD_VALUE, -2);
        Due.is("FULL", FloodBarrier.FULL, -3);
        Due.is("NOT_POSSIBLE", FloodBarrier.NOT_POSSIBLE, -4);
        Due.is("NONE", FloodBarrier.NONE, -5);
    }

    private static void nothingIsThereAtFirst() {
        Due.sentence("1: a barrier without sections");
        FloodBarrier x = new FloodBarrier();
        for (int what = 11; what <= 14; what++) {
            Due.is("count(" + what + ")", x.count(what), 0);
        }
        Due.is("closed", x.count(3), 0);
        Due.is("jammed", x.count(4), 0);
        Due.is("the section that moves", x.count(2), NONE);
        Due.is("weights for closing", x.count(5), 0);
        Due.is("all weights", x.count(6), 0);
    }

    private static void firstValues() {
        Due.sentence("Terms: at first");
        FloodBarrier x = new FloodBarrier();
        Due.is("the hour is 0", x.count(0), 0);
        Due.is("the order is rest", x.count(1), 0);
        Due.is("closings", x.count(7), 0);
        Due.is("drills", x.count(8), 0);
        Due.is("the area", x.count(9), 100000);
        Due.is("the limit of power", x.count(10), 100);
        Due.is("pumps that did not run", x.count(17), 0);
        Due.is("the alarm", x.level(2), 2.0);
    }

    private static void firstWaterAndTides() {
        Due.sentence("Terms: a volume (at first 0), a level for each hour (0.0 at first)");
        FloodBarrier x = new FloodBarrier();
        for (int what = 0; what <= 5; what++) {
            Due.is("water(" + what + ")", x.water(what), 0);
        }
        for (int hour = 0; hour < 24; hour++) {
            Due.is("tide(" + hour + ")", x.tide(hour), 0);
        }
        Due.is("outer", x.level(0), 0.0);
        Due.is("inner", x.level(1), 0.0);
    }

    private static void firstHistoryAndText() {
        Due.sentence("Terms: a text, empty at first; a history; one snapshot, empty at first");
        Due.is("states", new FloodBarrier().count(15), 0);
        Due.is("undo()", new FloodBarrier().undo(), NONE);
        Due.is("restore()", new FloodBarrier().restore(), NONE);
        Due.is("the text", new FloodBarrier().count(16), 0);
        Due.is("clearText()", new FloodBarrier().clearText(), 0);
        Due.is("readTides(0)", new FloodBarrier().readTides(0), -100);
    }

    private static void nothingThatIsNotThereIsTold() {
        Due.sentence("1: a barrier without sections, districts, streams, pumps");
        Refused.is("section(0, 0)", FloodBarrier::new, x -> x.section(0, 0), UNKNOWN);
        Refused.is("pump(0, 0)", FloodBarrier::new, x -> x.pump(0, 0), UNKNOWN);
        Refused.is("service(0)", FloodBarrier::new, x -> x.service(0), UNKNOWN);
        Refused.is("vote(0, true)", FloodBarrier::new, x -> x.vote(0, true), UNKNOWN);
        Refused.is("setStream(0, 1)", FloodBarrier::new, x -> x.setStream(0, 1), UNKNOWN);
        Refused.is("switchPump(0, true)", FloodBarrier::new, x -> x.switchPump(0, true), UNKNOWN);
        Refused.is("close()", FloodBarrier::new, x -> x.close(), Refused.NOT_POSSIBLE);
        Refused.is("open()", FloodBarrier::new, x -> x.open(), Refused.NOT_POSSIBLE);
        Due.is("shutIn()", new FloodBarrier().shutIn(), 0);
    }

    // ---- promise 2

    private static void widthOfASection() {
        Due.sentence("2: width: 1 to 50");
        for (int width : new int[] {LEAST_INT, -1, 0, 51, MOST_INT}) {
            Refused.is("width " + width, Barriers::busy, x -> x.addSection(width, CREST, 1, 1), BAD);
        }
        FloodBarrier x = new FloodBarrier();
        Due.is("width 1", x.addSection(1, CREST, 2, 2), 0);
        Due.is("width 50", x.addSection(50, CREST, 2, 2), 1);
        Due.is("its width is 1", x.section(0, 0), 1);
        Due.is("its width is 50", x.section(1, 0), 50);
    }

    private static void hoursOfASection() {
        Due.sentence("2: hours: 1 to 6");
        for (int hours : new int[] {LEAST_INT, -1, 0, 7, MOST_INT}) {
            Refused.is("hours " + hours, Barriers::busy, x -> x.addSection(2, CREST, hours, 1), BAD);
        }
        FloodBarrier x = new FloodBarrier();
        Due.is("hours 1", x.addSection(2, CREST, 1, 2), 0);
        Due.is("hours 6", x.addSection(2, CREST, 6, 2), 1);
        Due.is("its hours are 1", x.section(0, 1), 1);
        Due.is("its hours are 6", x.section(1, 1), 6);
    }

    private static void lifeOfASection() {
        Due.sentence("2: life: 1 to 20");
        for (int life : new int[] {LEAST_INT, -1, 0, 21, MOST_INT}) {
            Refused.is("life " + life, Barriers::busy, x -> x.addSection(2, CREST, 1, life), BAD);
        }
        FloodBarrier x = new FloodBarrier();
        Due.is("life 1", x.addSection(2, CREST, 2, 1), 0);
        Due.is("life 20", x.addSection(2, CREST, 2, 20), 1);
        Due.is("its life is 1", x.section(0, 2), 1);
        Due.is("its life is 20", x.section(1, 2), 20);
    }

    private static void crestThatIsNoNumber() {
        Due.sentence("2: the crest is no number");
        for (long bits : NO_NUMBERS) {
            Refused.is("bits " + bits, Barriers::busy, x -> x.addSection(1, bits, 1, 1), BAD);
        }
    }

    private static void crestFromZeroToTen() {
        Due.sentence("2: or not from 0.0 to 10.0");
        double[] outside = {-Double.MIN_VALUE, -1.0, Double.NEGATIVE_INFINITY,
            Math.nextUp(10.0), 11.0, Double.MAX_VALUE, Double.POSITIVE_INFINITY};
        for (double crest : outside) {
            Refused.is("crest " + crest, Barriers::busy,
                    x -> x.addSection(1, Due.bits(crest), 1, 1), BAD);
        }
        double[] inside = {0.0, Double.MIN_VALUE, Double.MIN_NORMAL, Math.nextDown(10.0), 10.0};
        for (double crest : inside) {
            Due.is("crest " + crest, new FloodBarrier().addSection(1, Due.bits(crest), 1, 1), 0);
        }
    }

    private static void crestMinusZero() {
        Due.sentence("2: or -0.0");
        Refused.is("crest -0.0", Barriers::busy, x -> x.addSection(1, Due.bits(-0.0), 1, 1), BAD);
        Due.is("crest 0.0", new FloodBarrier().addSection(1, 0L, 1, 1), 0);
    }

    private static void anyWrongArgumentIsEnough() {
        Due.sentence("2: BAD_VALUE (width; the crest ..; hours; life)");
        Refused.is("all wrong", Barriers::busy, x -> x.addSection(0, -1L, 0, 0), BAD);
        Refused.is("all too large", Barriers::busy,
                x -> x.addSection(51, Due.bits(10.5), 7, 21), BAD);
    }

    private static void eightSections() {
        Due.sentence("2: FULL if there are 8");
        FloodBarrier y = new FloodBarrier();
        for (int i = 0; i < 8; i++) {
            Due.is("section " + i, y.addSection(1, CREST, 1, 1), i);
            Due.is("so many sections", y.count(11), i + 1);
            Due.is("open at first", y.section(i, 3), 0);
            Due.is("no hours left at first", y.section(i, 4), NONE);
            Due.is("closed 0 times at first", y.section(i, 5), 0);
        }
        Refused.is("a ninth", Barriers::full, x -> x.addSection(1, CREST, 1, 1), FULL);
        Refused.is("a ninth, the largest", Barriers::full,
                x -> x.addSection(50, Due.bits(10.0), 6, 20), FULL);
    }

    private static void valuesComeBeforeRoomForSections() {
        Due.sentence("2: BAD_VALUE; FULL, in this order");
        Refused.is("width 0", Barriers::full, x -> x.addSection(0, CREST, 1, 1), BAD);
        Refused.is("crest -0.0", Barriers::full, x -> x.addSection(1, Due.bits(-0.0), 1, 1), BAD);
        Refused.is("hours 7", Barriers::full, x -> x.addSection(1, CREST, 7, 1), BAD);
        Refused.is("life 21", Barriers::full, x -> x.addSection(1, CREST, 1, 21), BAD);
    }

    private static void roomAgainAfterUndo() {
        Due.sentence("2 to 5: FULL if there are so many; acts");
        FloodBarrier x = new FloodBarrier();
        for (int i = 0; i < 8; i++) {
            x.addSection(1, CREST, 1, 1);
        }
        Due.is("a ninth", x.addSection(2, CREST, 2, 2), FULL);
        Due.is("undo()", x.undo(), 4);
        Due.is("seven are left", x.count(11), 7);
        Due.is("the eighth is not there", x.section(7, 0), UNKNOWN);
        Due.is("an eighth again", x.addSection(2, CREST, 3, 4), 7);
        Due.is("its width", x.section(7, 0), 2);
        Due.is("its hours", x.section(7, 1), 3);
        Due.is("its life", x.section(7, 2), 4);
    }

    // ---- promises 3 to 5

    private static void weightOfADistrict() {
        Due.sentence("3: weight: 1 to 99");
        for (int weight : new int[] {LEAST_INT, -1, 0, 100, MOST_INT}) {
            Refused.is("weight " + weight, Barriers::busy, x -> x.addDistrict(weight), BAD);
        }
        FloodBarrier x = new FloodBarrier();
        Due.is("weight 1", x.addDistrict(1), 0);
        Due.is("all weights", x.count(6), 1);
        Due.is("weight 99", x.addDistrict(99), 1);
        Due.is("all weights", x.count(6), 100);
        Due.is("at first not for closing", x.count(5), 0);
    }

    private static void sixDistricts() {
        Due.sentence("3: FULL if there are 6");
        FloodBarrier y = new FloodBarrier();
        for (int i = 0; i < 6; i++) {
            Due.is("district " + i, y.addDistrict(99), i);
            Due.is("so many districts", y.count(12), i + 1);
        }
        Due.is("all weights", y.count(6), 594);
        Due.is("at first not for closing", y.count(5), 0);
        Refused.is("a seventh", Barriers::full, x -> x.addDistrict(1), FULL);
        Refused.is("a seventh, weight 0", Barriers::full, x -> x.addDistrict(0), BAD);
        Refused.is("a seventh, weight 100", Barriers::full, x -> x.addDistrict(100), BAD);
    }

    private static void waterOfAStream() {
        Due.sentence("4: water: 0 to 99999");
        for (int water : new int[] {LEAST_INT, -1, 100000, MOST_INT}) {
            Refused.is("water " + water, Barriers::busy, x -> x.addStream(water), BAD);
        }
        FloodBarrier x = new FloodBarrier();
        Due.is("water 0", x.addStream(0), 0);
        x.pass(1);
        Due.is("it brings nothing", x.water(4), 0);
        Due.is("water 99999", x.addStream(99999), 1);
        x.pass(1);
        Due.is("it brings 99999", x.water(4), 99999);
        Due.is("water 1", x.addStream(1), 2);
        x.pass(1);
        Due.is("it brings 1", x.water(4), 2 * 99999 + 1);
    }

    private static void fourStreams() {
        Due.sentence("4: FULL if there are 4");
        FloodBarrier y = new FloodBarrier();
        for (int i = 0; i < 4; i++) {
            Due.is("stream " + i, y.addStream(99999), i);
            Due.is("so many streams", y.count(13), i + 1);
        }
        y.pass(1);
        Due.is("all of them bring", y.water(4), 4 * 99999);
        Refused.is("a fifth", Barriers::full, x -> x.addStream(0), FULL);
        Refused.is("a fifth, water -1", Barriers::full, x -> x.addStream(-1), BAD);
        Refused.is("a fifth, water 100000", Barriers::full, x -> x.addStream(100000), BAD);
    }

    private static void powerOfAPump() {
        Due.sentence("5: power: 1 to 99");
        for (int power : new int[] {LEAST_INT, -1, 0, 100, MOST_INT}) {
            Refused.is("power " + power, Barriers::busy, x -> x.addPump(power, 1), BAD);
        }
        FloodBarrier x = new FloodBarrier();
        Due.is("power 1", x.addPump(1, 7), 0);
        Due.is("its power is 1", x.pump(0, 0), 1);
        Due.is("power 99", x.addPump(99, 7), 1);
        Due.is("its power is 99", x.pump(1, 0), 99);
    }

    private static void waterOfAPump() {
        Due.sentence("5: water: 1 to 99999");
        for (int water : new int[] {LEAST_INT, -1, 0, 100000, MOST_INT}) {
            Refused.is("water " + water, Barriers::busy, x -> x.addPump(1, water), BAD);
        }
        Refused.is("both wrong", Barriers::busy, x -> x.addPump(0, 0), BAD);
        FloodBarrier x = new FloodBarrier();
        Due.is("water 1", x.addPump(7, 1), 0);
        Due.is("its water is 1", x.pump(0, 1), 1);
        Due.is("water 99999", x.addPump(7, 99999), 1);
        Due.is("its water is 99999", x.pump(1, 1), 99999);
    }

    private static void sixPumps() {
        Due.sentence("5: FULL if there are 6");
        FloodBarrier y = new FloodBarrier();
        for (int i = 0; i < 6; i++) {
            Due.is("pump " + i, y.addPump(1, 1), i);
            Due.is("so many pumps", y.count(14), i + 1);
            Due.is("off at first", y.pump(i, 2), 0);
            Due.is("has run in no hour", y.pump(i, 4), 0);
        }
        Refused.is("a seventh", Barriers::full, x -> x.addPump(1, 1), FULL);
        Refused.is("a seventh, power 0", Barriers::full, x -> x.addPump(0, 1), BAD);
        Refused.is("a seventh, power 100", Barriers::full, x -> x.addPump(100, 1), BAD);
        Refused.is("a seventh, water 0", Barriers::full, x -> x.addPump(1, 0), BAD);
        Refused.is("a seventh, water 100000", Barriers::full, x -> x.addPump(1, 100000), BAD);
    }

    // ---- promise 6

    private static void streamThatIsNotThere() {
        Due.sentence("6: UNKNOWN, before BAD_VALUE and NONE");
        for (int stream : new int[] {LEAST_INT, -1, 2, 3, 4, MOST_INT}) {
            Refused.is("stream " + stream, Barriers::busy, x -> x.setStream(stream, 5), UNKNOWN);
            Refused.is("stream " + stream + ", water -1", Barriers::busy,
                    x -> x.setStream(stream, -1), UNKNOWN);
            Refused.is("stream " + stream + ", water 0", Barriers::busy,
                    x -> x.setStream(stream, 0), UNKNOWN);
        }
        Refused.is("stream 4 of four", Barriers::full, x -> x.setStream(4, 5), UNKNOWN);
        Due.is("stream 3 of four", Barriers.full().setStream(3, 5), 43);
        Due.is("stream 0 of four", Barriers.full().setStream(0, 5), 40);
    }

    private static void waterThatAStreamIsSetTo() {
        Due.sentence("6: water: 0 to 99999");
        for (int water : new int[] {LEAST_INT, -1, 100000, MOST_INT}) {
            Refused.is("water " + water, Barriers::busy, x -> x.setStream(0, water), BAD);
        }
        FloodBarrier x = new FloodBarrier();
        x.addStream(50);
        Due.is("water 0", x.setStream(0, 0), 50);
        x.pass(1);
        Due.is("it brings nothing", x.water(4), 0);
        Due.is("water 99999", x.setStream(0, 99999), 0);
        x.pass(1);
        Due.is("it brings 99999", x.water(4), 99999);
        Due.is("back to 0", x.setStream(0, 0), 99999);
    }

    private static void streamIsSoAlready() {
        Due.sentence("6: NONE if it is so already");
        Refused.is("800 already", Barriers::busy, x -> x.setStream(0, 800), NONE);
        Refused.is("0 already", Barriers::busy, x -> x.setStream(1, 0), NONE);
        Due.is("801", Barriers.busy().setStream(0, 801), 800);
        Due.is("799", Barriers.busy().setStream(0, 799), 800);
    }

    // ---- promise 7

    private static void pumpThatIsNotThere() {
        Due.sentence("7: UNKNOWN, before NONE");
        for (int pump : new int[] {LEAST_INT, -1, 3, 4, 5, 6, MOST_INT}) {
            Refused.is("pump " + pump + " on", Barriers::busy, x -> x.switchPump(pump, true), UNKNOWN);
            Refused.is("pump " + pump + " off", Barriers::busy,
                    x -> x.switchPump(pump, false), UNKNOWN);
        }
        Refused.is("pump 6 of six", Barriers::full, x -> x.switchPump(6, true), UNKNOWN);
        Due.is("pump 5 of six", Barriers.full().switchPump(5, true), 1);
    }

    private static void pumpIsSoAlready() {
        Due.sentence("7: NONE if it is so already");
        Refused.is("on already", Barriers::busy, x -> x.switchPump(0, true), NONE);
        Refused.is("off already", Barriers::busy, x -> x.switchPump(2, false), NONE);
        Refused.is("off at first", Barriers::full, x -> x.switchPump(0, false), NONE);
    }

    private static void howManyPumpsAreOn() {
        Due.sentence("7: returns how many pumps are on then");
        FloodBarrier x = Barriers.full();
        for (int pump = 0; pump < 6; pump++) {
            Due.is("pump " + pump + " on", x.switchPump(pump, true), pump + 1);
        }
        for (int pump = 0; pump < 6; pump++) {
            Due.is("pump " + pump + " off", x.switchPump(pump, false), 5 - pump);
        }
    }

    // ---- promise 8

    private static void settingThatIsNotThere() {
        Due.sentence("8: what: 0 for the area, 1 for the limit of power");
        for (int what : new int[] {LEAST_INT, -1, 2, 3, MOST_INT}) {
            Refused.is("what " + what + ", 1000", Barriers::busy, x -> x.set(what, 1000), BAD);
            Refused.is("what " + what + ", 200", Barriers::busy, x -> x.set(what, 200), BAD);
        }
    }

    private static void areaFromTo() {
        Due.sentence("8: the area (1000 to 1000000)");
        for (int area : new int[] {LEAST_INT, -1, 0, 600, 999, 1000001, MOST_INT}) {
            Refused.is("area " + area, Barriers::busy, x -> x.set(0, area), BAD);
        }
        FloodBarrier x = new FloodBarrier();
        Due.is("area 1000", x.set(0, 1000), 100000);
        Due.is("it is 1000", x.count(9), 1000);
        Due.is("area 1000000", x.set(0, 1000000), 1000);
        Due.is("it is 1000000", x.count(9), 1000000);
        Due.is("the limit stays", x.count(10), 100);
    }

    private static void limitFromTo() {
        Due.sentence("8: the limit of power (0 to 600)");
        for (int limit : new int[] {LEAST_INT, -1, 601, 1000, MOST_INT}) {
            Refused.is("limit " + limit, Barriers::busy, x -> x.set(1, limit), BAD);
        }
        FloodBarrier x = new FloodBarrier();
        Due.is("limit 0", x.set(1, 0), 100);
        Due.is("it is 0", x.count(10), 0);
        Due.is("limit 600", x.set(1, 600), 0);
        Due.is("it is 600", x.count(10), 600);
        Due.is("the area stays", x.count(9), 100000);
    }

    private static void settingIsSoAlready() {
        Due.sentence("8: NONE if it is so already");
        Refused.is("area at first", FloodBarrier::new, x -> x.set(0, 100000), NONE);
        Refused.is("limit at first", FloodBarrier::new, x -> x.set(1, 100), NONE);
        Refused.is("area", Barriers::busy, x -> x.set(0, 50000), NONE);
        Refused.is("limit", Barriers::busy, x -> x.set(1, 110), NONE);
        Due.is("area beside it", Barriers.busy().set(0, 50001), 50000);
        Due.is("limit beside it", Barriers.busy().set(1, 109), 110);
    }

    // ---- promise 9

    private static void alarmThatIsNoNumber() {
        Due.sentence("9: BAD_VALUE (no number)");
        for (long bits : NO_NUMBERS) {
            Refused.is("bits " + bits, Barriers::busy, x -> x.setAlarm(bits), BAD);
        }
    }

    private static void alarmFromTo() {
        Due.sentence("9: or not from -5.0 to 10.0");
        double[] outside = {Double.NEGATIVE_INFINITY, -Double.MAX_VALUE, -6.0,
            Math.nextDown(-5.0), Math.nextUp(10.0), 11.0, Double.POSITIVE_INFINITY};
        for (double level : outside) {
            Refused.is("alarm " + level, Barriers::busy, x -> x.setAlarm(Due.bits(level)), BAD);
        }
        double[] inside = {-5.0, Math.nextUp(-5.0), Math.nextDown(10.0), 10.0};
        for (double level : inside) {
            FloodBarrier x = new FloodBarrier();
            Due.is("alarm " + level, x.setAlarm(Due.bits(level)), 1);
            Due.is("level(2)", x.level(2), level);
            Due.is("undo()", x.undo(), 0);
            Due.is("level(2), undone", x.level(2), 2.0);
        }
    }

    private static FloodBarrier withAlarm(double level) {
        FloodBarrier x = new FloodBarrier();
        x.setAlarm(Due.bits(level));
        return x;
    }

    private static void alarmIsEqualAlready() {
        Due.sentence("9: NONE if it is equal to the one that is set (-0.0 is equal to 0.0)");
        Refused.is("2.0 at first", FloodBarrier::new, x -> x.setAlarm(Due.bits(2.0)), NONE);
        Refused.is("1.75", Barriers::busy, x -> x.setAlarm(Due.bits(1.75)), NONE);
        Refused.is("-0.0 for 0.0", () -> withAlarm(0.0), x -> x.setAlarm(Due.bits(-0.0)), NONE);
        Refused.is("0.0 for -0.0", () -> withAlarm(-0.0), x -> x.setAlarm(0L), NONE);
        Refused.is("-0.0 for -0.0", () -> withAlarm(-0.0), x -> x.setAlarm(Due.bits(-0.0)), NONE);
        Refused.is("0.0 for 0.0", () -> withAlarm(0.0), x -> x.setAlarm(0L), NONE);
        Due.is("the next above", new FloodBarrier().setAlarm(Due.bits(Math.nextUp(2.0))), 1);
        Due.is("the next below", new FloodBarrier().setAlarm(Due.bits(Math.nextDown(2.0))), 1);
        Due.is("-2.0 for 2.0", new FloodBarrier().setAlarm(Due.bits(-2.0)), 1);
        Due.is("the least for 0.0", withAlarm(0.0).setAlarm(Due.bits(Double.MIN_VALUE)), 1);
        Due.is("the least for -0.0", withAlarm(-0.0).setAlarm(Due.bits(-Double.MIN_VALUE)), 1);
    }

    private static void alarmWithItsOwnBits() {
        Due.sentence("9: where another one is set, it is set with its own bits");
        Due.is("-0.0", withAlarm(-0.0).level(2), -0.0);
        Due.is("0.0", withAlarm(0.0).level(2), 0.0);
        Due.is("the least", withAlarm(Double.MIN_VALUE).level(2), Double.MIN_VALUE);
        Due.is("the least below", withAlarm(-Double.MIN_VALUE).level(2), -Double.MIN_VALUE);
        FloodBarrier x = withAlarm(-0.0);
        x.setAlarm(0L);
        Due.is("-0.0 stays", x.level(2), -0.0);
    }

    // ---- promise 10

    private static void hourOfATide() {
        Due.sentence("10: hour: 0 to 23");
        for (int hour : new int[] {LEAST_INT, -24, -1, 24, 25, MOST_INT}) {
            Refused.is("hour " + hour, Barriers::busy, x -> x.setTide(hour, Due.bits(1.0)), BAD);
            Refused.is("hour " + hour + ", 0.0", Barriers::busy, x -> x.setTide(hour, 0L), BAD);
        }
        for (int hour = 0; hour < 24; hour++) {
            FloodBarrier x = new FloodBarrier();
            Due.is("hour " + hour, x.setTide(hour, Due.bits(1.0)), 1);
            for (int other = 0; other < 24; other++) {
                Due.is("tide(" + other + ")", x.tide(other), other == hour ? Due.bits(1.0) : 0L);
            }
        }
    }

    private static void tideThatIsNoNumber() {
        Due.sentence("10: BAD_VALUE (no number)");
        for (long bits : NO_NUMBERS) {
            Refused.is("bits " + bits, Barriers::busy, x -> x.setTide(0, bits), BAD);
        }
    }

    private static void tideFromTo() {
        Due.sentence("10: or not from -5.0 to 10.0");
        double[] outside = {Double.NEGATIVE_INFINITY, -Double.MAX_VALUE, -6.0,
            Math.nextDown(-5.0), Math.nextUp(10.0), 11.0, Double.POSITIVE_INFINITY};
        for (double level : outside) {
            Refused.is("tide " + level, Barriers::busy, x -> x.setTide(23, Due.bits(level)), BAD);
        }
        double[] inside = {-5.0, Math.nextUp(-5.0), Math.nextDown(10.0), 10.0};
        for (double level : inside) {
            FloodBarrier x = new FloodBarrier();
            Due.is("tide " + level, x.setTide(0, Due.bits(level)), 1);
            Due.is("tide(0)", x.tide(0), Due.bits(level));
            Due.is("level(0)", x.level(0), level);
            Due.is("undo()", x.undo(), 0);
            Due.is("tide(0), undone", x.tide(0), 0L);
        }
    }

    private static FloodBarrier withTide(double level) {
        FloodBarrier x = new FloodBarrier();
        x.setTide(7, Due.bits(1.0));
        x.setTide(7, Due.bits(level));
        return x;
    }

    private static void tideIsEqualAlready() {
        Due.sentence("10: NONE if it is equal to the one that is set (-0.0 is equal to 0.0)");
        Refused.is("0.0 at first", FloodBarrier::new, x -> x.setTide(0, 0L), NONE);
        Refused.is("-0.0 at first", FloodBarrier::new, x -> x.setTide(0, Due.bits(-0.0)), NONE);
        Refused.is("2.75", Barriers::busy, x -> x.setTide(9, Due.bits(2.75)), NONE);
        Refused.is("0.0 for -0.0", () -> withTide(-0.0), x -> x.setTide(7, 0L), NONE);
        Refused.is("-0.0 for -0.0", () -> withTide(-0.0), x -> x.setTide(7, Due.bits(-0.0)), NONE);
        Due.is("another hour's", Barriers.busy().setTide(8, Due.bits(2.75)), 1);
        Due.is("the least for 0.0", withTide(0.0).setTide(7, Due.bits(Double.MIN_VALUE)), 1);
        Due.is("the least for -0.0", withTide(-0.0).setTide(7, Due.bits(-Double.MIN_VALUE)), 1);
        Due.is("-1.0 for 1.0", withTide(1.0).setTide(7, Due.bits(-1.0)), 1);
    }

    private static void tideWithItsOwnBits() {
        Due.sentence("10: where another one is set, it is set with its own bits");
        Due.is("-0.0", withTide(-0.0).tide(7), Due.bits(-0.0));
        Due.is("0.0", withTide(0.0).tide(7), 0L);
        Due.is("the least", withTide(Double.MIN_VALUE).tide(7), 1L);
        FloodBarrier x = withTide(-0.0);
        x.setTide(7, 0L);
        Due.is("-0.0 stays", x.tide(7), Due.bits(-0.0));
        x.pass(7);
        Due.is("level(0) is -0.0, too", x.level(0), -0.0);
    }
}
