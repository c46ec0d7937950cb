/** Promises 22 to 29, sentence by sentence: the smallest and the largest number that is told of. */
public final class BoundsOfWhatIsToldTest {
    private static final int UNKNOWN = Refused.UNKNOWN;
    private static final int BAD = Refused.BAD_VALUE;
    private static final int NONE = Refused.NONE;

    private static final int LEAST_INT = Integer.MIN_VALUE;
    private static final int MOST_INT = Integer.MAX_VALUE;
    private static final long NAN = Double.doubleToLongBits(Double.NaN);
    private static final long CREST = Barriers.CREST;

    public static void main(String[] args) {
        sectionThatIsNotThere();
        whatOfASection();
        statesOfASection();
        hoursLeftOfASection();
        howOftenASectionHasClosed();

        pumpThatIsNotThere();
        whatOfAPump();
        whetherAPumpIsOn();
        whetherAPumpWouldRun();
        hoursInWhichAPumpHasRun();

        whatOfALevel();
        outerLevelOfThePresentHour();
        innerLevelByTheArea();
        whatOfTheWater();
        waterAtFirst();

        hoursOfAForecast();
        forecastOfNoHour();
        forecastOfTheMostHours();
        forecastIsOfNow();
        forecastWhileSectionsMove();

        shutInNow();
        shutInAnHour();
        shutInTheMostHours();
        neverShutIn();
        shutInByJams();
        shutForTheFirstTime();

        hourOfATide();
        bitsOfATide();

        whatOfACount();
        countOfTheHour();
        countOfTheOrder();
        countOfTheSectionThatMoves();
        countOfClosedAndJammed();
        countOfStates();
        countOfTheText();
        countOfPumpsThatDidNotRun();
        tellingChangesNothing();
        Due.end();
    }

    // ---- promise 22

    private static void sectionThatIsNotThere() {
        Due.sentence("22: UNKNOWN, before BAD_VALUE");
        for (int section : new int[] {LEAST_INT, -1, 4, 5, 7, 8, MOST_INT}) {
            Refused.is("section " + section, Barriers::busy, x -> x.section(section, 0), UNKNOWN);
            Refused.is("section " + section + ", what 6", Barriers::busy,
                    x -> x.section(section, 6), UNKNOWN);
        }
        Due.is("section 0 of eight", Barriers.full().section(0, 0), 1);
        Due.is("section 7 of eight", Barriers.full().section(7, 0), 8);
        Refused.is("section 8 of eight", Barriers::full, x -> x.section(8, 0), UNKNOWN);
    }

    private static void whatOfASection() {
        Due.sentence("22: what: 0 .. 5");
        for (int what : new int[] {LEAST_INT, -1, 6, 7, MOST_INT}) {
            Refused.is("what " + what, Barriers::busy, x -> x.section(0, what), BAD);
        }
        FloodBarrier x = new FloodBarrier();
        x.addSection(50, CREST, 6, 20);
        int[] due = {50, 6, 20, 0, NONE, 0};
        for (int what = 0; what < due.length; what++) {
            Due.is("section(0, " + what + ")", x.section(0, what), due[what]);
        }
    }

    private static void statesOfASection() {
        Due.sentence("22: 3 for its state (0 open, 1 closing, 2 closed, 3 opening, 4 jammed)");
        FloodBarrier x = Due.willing();
        x.addSection(1, CREST, 2, 1);
        int[] due = {0, 1, 2, 3, 0};
        for (int i = 0; i < due.length; i++) {
            Due.is("after " + i, x.section(0, 3), due[i]);
            if (i == 0) {
                x.close();
            } else if (i == 2) {
                x.open();
            }
            x.pass(1);
        }
        x.close();
        x.pass(1);
        Due.is("jammed", x.section(0, 3), 4);
    }

    private static void hoursLeftOfASection() {
        Due.sentence("22: 4 for its hours left (NONE if it does not move)");
        for (int section : new int[] {0, 1, 3}) {
            Refused.is("section " + section, Barriers::busy, x -> x.section(section, 4), NONE);
        }
        Due.is("closing", Barriers.busy().section(2, 4), 5);
        FloodBarrier x = Due.willing();
        x.addSection(1, CREST, 1, 1);
        x.close();
        Due.is("to close, but not yet", x.section(0, 4), NONE);
        x.pass(1);
        Due.is("an hour is enough", x.section(0, 4), NONE);
    }

    private static void howOftenASectionHasClosed() {
        Due.sentence("22: 5 for how often it has closed since its service");
        FloodBarrier x = Due.willing();
        x.addSection(1, CREST, 1, 1);
        Due.is("at first", x.section(0, 5), 0);
        x.close();
        Due.is("ordered", x.section(0, 5), 0);
        x.pass(1);
        Due.is("closed", x.section(0, 5), 1);
        x.open();
        x.pass(1);
        Due.is("open again", x.section(0, 5), 1);
        x.close();
        x.pass(1);
        Due.is("jammed", x.section(0, 5), 1);
        x.service(0);
        Due.is("serviced", x.section(0, 5), 0);
    }

    // ---- promise 23

    private static void pumpThatIsNotThere() {
        Due.sentence("23: UNKNOWN, before BAD_VALUE");
        for (int pump : new int[] {LEAST_INT, -1, 3, 4, 5, 6, MOST_INT}) {
            Refused.is("pump " + pump, Barriers::busy, x -> x.pump(pump, 3), UNKNOWN);
            Refused.is("pump " + pump + ", what 5", Barriers::busy, x -> x.pump(pump, 5), UNKNOWN);
        }
        Due.is("pump 0 of six", Barriers.full().pump(0, 0), 20);
        Due.is("pump 5 of six", Barriers.full().pump(5, 0), 25);
        Refused.is("pump 6 of six", Barriers::full, x -> x.pump(6, 0), UNKNOWN);
    }

    private static void whatOfAPump() {
        Due.sentence("23: what: 0 .. 4");
        for (int what : new int[] {LEAST_INT, -1, 5, 6, MOST_INT}) {
            Refused.is("what " + what, Barriers::busy, x -> x.pump(0, what), BAD);
        }
        FloodBarrier x = new FloodBarrier();
        x.addPump(99, 99999);
        int[] due = {99, 99999, 0, 0, 0};
        for (int what = 0; what < due.length; what++) {
            Due.is("pump(0, " + what + ")", x.pump(0, what), due[what]);
        }
    }

    private static void whetherAPumpIsOn() {
        Due.sentence("23: 2 for whether it is on (1, otherwise 0)");
        FloodBarrier x = new FloodBarrier();
        x.addPump(99, 1);
        Due.is("off at first", x.pump(0, 2), 0);
        x.switchPump(0, true);
        Due.is("on", x.pump(0, 2), 1);
        x.set(1, 0);
        Due.is("on, without power", x.pump(0, 2), 1);
        x.switchPump(0, false);
        Due.is("off", x.pump(0, 2), 0);
    }

    /** Limit 100; pumps of the powers 60, 40 and 1, all of them on. */
    private static FloodBarrier threePumps() {
        FloodBarrier x = new FloodBarrier();
        int[] powers = {60, 40, 1};
        for (int i = 0; i < 3; i++) {
            x.addPump(powers[i], 10);
            x.switchPump(i, true);
        }
        return x;
    }

    private static void wouldRun(FloodBarrier x, int... due) {
        for (int i = 0; i < due.length; i++) {
            Due.is("pump(" + i + ", 3)", x.pump(i, 3), due[i]);
        }
    }

    private static void whetherAPumpWouldRun() {
        Due.sentence("23: 3 for whether it would run in the next hour (1, otherwise 0)");
        FloodBarrier x = threePumps();
        wouldRun(x, 1, 1, 0);
        x.set(1, 99);
        wouldRun(x, 1, 0, 1);
        x.set(1, 101);
        wouldRun(x, 1, 1, 1);
        x.set(1, 60);
        wouldRun(x, 1, 0, 0);
        x.set(1, 59);
        wouldRun(x, 0, 1, 1);
        x.set(1, 1);
        wouldRun(x, 0, 0, 1);
        x.set(1, 0);
        wouldRun(x, 0, 0, 0);
        x.set(1, 600);
        x.switchPump(0, false);
        wouldRun(x, 0, 1, 1);
        x.set(1, 41);
        wouldRun(x, 0, 1, 1);
        Due.is("none has run", x.pump(1, 4), 0);
    }

    private static void hoursInWhichAPumpHasRun() {
        Due.sentence("23: 4 for the hours in which it has run");
        FloodBarrier x = threePumps();
        x.pass(48);
        Due.is("all", x.pump(0, 4), 48);
        Due.is("all, though dry", x.pump(1, 4), 48);
        Due.is("none", x.pump(2, 4), 0);
        x.switchPump(0, false);
        x.pass(1);
        Due.is("off", x.pump(0, 4), 48);
        Due.is("one more", x.pump(1, 4), 49);
        Due.is("the first", x.pump(2, 4), 1);
        x.undo();
        Due.is("undone", x.pump(2, 4), 0);
    }

    // ---- promises 24 and 25

    private static void whatOfALevel() {
        Due.sentence("24: a NaN (0.0 / 0.0) if what is out of range");
        for (int what : new int[] {LEAST_INT, -1, 3, 4, MOST_INT}) {
            Refused.changesNothing("what " + what, Barriers::busy,
                    x -> Double.doubleToLongBits(x.level(what)), NAN);
        }
        FloodBarrier x = new FloodBarrier();
        Due.is("what 0", x.level(0), 0.0);
        Due.is("what 1", x.level(1), 0.0);
        Due.is("what 2", x.level(2), 2.0);
    }

    private static void outerLevelOfThePresentHour() {
        Due.sentence("24: 0 for the outer level of the present hour");
        FloodBarrier x = new FloodBarrier();
        x.setTide(0, Due.bits(-5.0));
        x.setTide(23, Due.bits(10.0));
        Due.is("hour 0, the lowest", x.level(0), -5.0);
        x.pass(23);
        Due.is("hour 23, the highest", x.level(0), 10.0);
        x.pass(1);
        Due.is("hour 24", x.level(0), -5.0);
        x.pass(47);
        Due.is("hour 71", x.level(0), 10.0);
        x.setTide(23, Due.bits(1.0));
        Due.is("set now", x.level(0), 1.0);
    }

    private static void innerLevelByTheArea() {
        Due.sentence("24: 1 for the inner level");
        FloodBarrier x = new FloodBarrier();
        x.addStream(99999);
        Due.is("an empty basin", x.level(1), 0.0);
        x.pass(1);
        Due.is("the first area", x.level(1), 99999.0 / 100000.0);
        x.set(0, 1000);
        Due.is("the least area", x.level(1), 99999.0 / 1000.0);
        x.set(0, 1000000);
        Due.is("the largest area", x.level(1), 99999.0 / 1000000.0);
    }

    private static void whatOfTheWater() {
        Due.sentence("25: what: 0 .. 5; BAD_VALUE");
        for (int what : new int[] {LEAST_INT, -1, 6, 7, MOST_INT}) {
            Refused.is("what " + what, Barriers::busy, x -> x.water(what), BAD);
        }
        FloodBarrier x = new FloodBarrier();
        x.addStream(7);
        x.addPump(1, 3);
        x.switchPump(0, true);
        x.pass(1);
        Due.is("what 0", x.water(0), 4);
        Due.is("what 4", x.water(4), 7);
        Due.is("what 5", x.water(5), 3);
    }

    private static void waterAtFirst() {
        Due.sentence("25: returns the cubic metres: 0 before the first hour");
        FloodBarrier x = Barriers.full();
        for (int what = 0; what <= 5; what++) {
            Due.is("water(" + what + ")", x.water(what), 0);
        }
    }

    // ---- promise 26

    private static void hoursOfAForecast() {
        Due.sentence("26: hours: 0 to 48; a NaN if hours is out of range");
        for (int hours : new int[] {LEAST_INT, -1, 49, 50, MOST_INT}) {
            Refused.changesNothing(hours + " hours", Barriers::busy,
                    x -> Double.doubleToLongBits(x.forecast(hours)), NAN);
        }
    }

    private static void forecastOfNoHour() {
        Due.sentence("26: the inner level that there would be if 0 hours passed now");
        Due.is("at first", new FloodBarrier().forecast(0), 0.0);
        FloodBarrier x = Barriers.busy();
        Due.is("0 hours", x.forecast(0), x.level(1));
    }

    private static void forecastOfTheMostHours() {
        Due.sentence("26: the inner level that there would be if 48 hours passed now");
        for (int hours = 1; hours <= 48; hours++) {
            FloodBarrier x = Barriers.busy();
            double due = x.forecast(hours);
            x.pass(hours);
            Due.is(hours + " hours", x.level(1), due);
        }
        FloodBarrier x = new FloodBarrier();
        x.addStream(1000);
        Due.is("1 hour", x.forecast(1), 0.01);
        Due.is("47 hours", x.forecast(47), 0.47);
        Due.is("48 hours", x.forecast(48), 0.48);
        Due.is("none has passed", x.level(1), 0.0);
    }

    private static void forecastIsOfNow() {
        Due.sentence("26: if hours passed now");
        FloodBarrier x = new FloodBarrier();
        x.addStream(1000);
        x.pass(20);
        Due.is("from hour 20", x.forecast(48), 0.68);
        x.setStream(0, 0);
        Due.is("the stream is set", x.forecast(48), 0.2);
        x.undo();
        Due.is("undone", x.forecast(48), 0.68);
        x.set(0, 1000);
        Due.is("by the area that is", x.forecast(1), 21.0);
    }

    private static void forecastWhileSectionsMove() {
        Due.sentence("26: if hours passed now, one after the other: sections close and wear in it");
        FloodBarrier x = Due.willing();
        x.set(0, 1000000);
        x.addSection(1, CREST, 2, 1);
        Barriers.setTides(x, 1.0);
        x.close();
        Due.is("closed after 2 hours", x.forecast(2), 1799.0 / 1000000.0);
        Due.is("so no more after 48", x.forecast(48), 1799.0 / 1000000.0);
        Due.is("it is open", x.section(0, 3), 0);
        Due.is("it has not closed", x.section(0, 5), 0);
        Due.is("the order", x.count(1), 1);
    }

    // ---- promise 27

    private static void shutInNow() {
        Due.sentence("27: returns the hours, 0 if it is so now");
        Refused.changesNothing("no section", FloodBarrier::new, x -> x.shutIn(), 0);
        FloodBarrier x = Barriers.withSections(1);
        x.close();
        x.pass(1);
        Due.is("just closed", x.shutIn(), 0);
        x.open();
        Due.is("closed, though the order is open", x.shutIn(), 0);
    }

    private static void shutInAnHour() {
        Due.sentence("27: in how many hours, if they passed now");
        for (int many = 1; many <= 8; many++) {
            FloodBarrier x = Barriers.withSections(many);
            x.close();
            for (int left = many; left > 0; left--) {
                Due.is(many + " sections", x.shutIn(), left);
                x.pass(1);
            }
            Due.is("now", x.shutIn(), 0);
        }
    }

    /** Eight sections of six hours, but that the last one takes so many. */
    private static FloodBarrier slow(int hoursOfTheLast) {
        FloodBarrier x = Due.willing();
        for (int i = 0; i < 7; i++) {
            x.addSection(1, CREST, 6, 2);
        }
        x.addSection(1, CREST, hoursOfTheLast, 2);
        return x;
    }

    private static FloodBarrier slowAndOrdered(int hoursOfTheLast) {
        FloodBarrier x = slow(hoursOfTheLast);
        x.close();
        return x;
    }

    private static void shutInTheMostHours() {
        Due.sentence("27: NONE if it would not be so within 48: in 48 it is");
        Refused.changesNothing("47", () -> slowAndOrdered(5), x -> x.shutIn(), 47);
        Refused.changesNothing("48", () -> slowAndOrdered(6), x -> x.shutIn(), 48);
    }

    /** Section 0 has closed and opens again; close is ordered when it has so many hours left. */
    private static FloodBarrier openingStill(int hoursLeft) {
        FloodBarrier x = slow(6);
        x.close();
        x.pass(1);
        x.open();
        x.pass(5);
        x.pass(6 - hoursLeft);
        x.close();
        return x;
    }

    private static void neverShutIn() {
        Due.sentence("27: NONE if it would not be so within 48");
        Refused.is("at rest", () -> Barriers.withSections(1), x -> x.shutIn(), NONE);
        Refused.is("49 hours", () -> openingStill(1), x -> x.shutIn(), NONE);
        Refused.is("50 hours", () -> openingStill(2), x -> x.shutIn(), NONE);
        Due.is("48 hours", openingStill(0).shutIn(), 48);
        Refused.is("opening", () -> {
            FloodBarrier x = slow(6);
            x.close();
            x.pass(6);
            x.open();
            x.pass(1);
            return x;
        }, x -> x.shutIn(), NONE);
    }

    private static void shutInByJams() {
        Due.sentence("27: no section would be open, closing or opening: jammed is neither");
        FloodBarrier x = Due.willing();
        for (int i = 0; i < 8; i++) {
            x.addSection(1, CREST, 1, 1);
        }
        x.close();
        x.pass(8);
        x.open();
        x.pass(8);
        x.close();
        Due.is("each jams in an hour", x.shutIn(), 8);
        Due.is("none is jammed yet", x.count(4), 0);
        x.pass(7);
        Due.is("one more", x.shutIn(), 1);
        x.pass(1);
        Due.is("all are jammed", x.shutIn(), 0);
    }

    private static void shutForTheFirstTime() {
        Due.sentence("27: for the first time");
        FloodBarrier x = Due.willing();
        x.addSection(1, CREST, 2, 2);
        x.close();
        x.pass(1);
        x.open();
        Due.is("it closes, and opens again behind that", x.shutIn(), 1);
        x.pass(2);
        Due.is("now it opens", x.shutIn(), NONE);
    }

    // ---- promise 28

    private static void hourOfATide() {
        Due.sentence("28: hour: 0 to 23");
        for (int hour : new int[] {LEAST_INT, -24, -1, 24, 25, MOST_INT}) {
            Refused.is("hour " + hour, Barriers::busy, x -> x.tide(hour), BAD);
        }
        FloodBarrier x = new FloodBarrier();
        x.setTide(0, Due.bits(-5.0));
        x.setTide(23, Due.bits(10.0));
        Due.is("tide(0)", x.tide(0), Due.bits(-5.0));
        Due.is("tide(1)", x.tide(1), 0L);
        Due.is("tide(22)", x.tide(22), 0L);
        Due.is("tide(23)", x.tide(23), Due.bits(10.0));
    }

    private static void bitsOfATide() {
        Due.sentence("28: the bits of the tide of this hour of the day");
        double[] levels = {-5.0, Math.nextUp(-5.0), -Double.MIN_VALUE, Double.MIN_VALUE,
            Double.MIN_NORMAL, Math.nextDown(Double.MIN_NORMAL), 0.1, Math.nextDown(10.0), 10.0};
        for (double level : levels) {
            FloodBarrier x = new FloodBarrier();
            x.setTide(7, Due.bits(level));
            Due.is("tide(7)", x.tide(7), Double.doubleToLongBits(level));
            x.pass(30);
            Due.is("of the day, not of the hour that is", x.tide(7), Due.bits(level));
            Due.is("tide(6)", x.tide(6), 0L);
        }
    }

    // ---- promise 29

    private static void whatOfACount() {
        Due.sentence("29: what: 0 .. 17; BAD_VALUE");
        for (int what : new int[] {LEAST_INT, -100, -1, 18, 19, MOST_INT}) {
            Refused.is("what " + what, Barriers::busy, x -> x.count(what), BAD);
        }
        int[] due = {0, 0, NONE, 0, 0, 0, 75, 0, 0, 100000, 100, 8, 6, 4, 6, 5, 60, 0};
        FloodBarrier x = Barriers.full();
        for (int what = 0; what < due.length; what++) {
            Due.is("count(" + what + ")", x.count(what), due[what]);
        }
    }

    private static void countOfTheHour() {
        Due.sentence("29: 0 for the hour, not that of the day");
        FloodBarrier x = new FloodBarrier();
        x.pass(23);
        Due.is("23", x.count(0), 23);
        x.pass(1);
        Due.is("24", x.count(0), 24);
        x.pass(1);
        Due.is("25", x.count(0), 25);
    }

    private static void countOfTheOrder() {
        Due.sentence("29: 1 for the order (0 rest, 1 close, 2 open)");
        FloodBarrier x = Barriers.withSections(1);
        Due.is("rest", x.count(1), 0);
        x.close();
        Due.is("close", x.count(1), 1);
        x.pass(1);
        x.open();
        Due.is("open", x.count(1), 2);
        x.pass(2);
        Due.is("rest again", x.count(1), 0);
    }

    private static void countOfTheSectionThatMoves() {
        Due.sentence("29: 2 for the section that moves (NONE if none does)");
        Refused.is("none, at first", FloodBarrier::new, x -> x.count(2), NONE);
        FloodBarrier x = slow(6);
        x.close();
        Due.is("none, before the first hour", x.count(2), NONE);
        x.pass(1);
        Due.is("the lowest", x.count(2), 0);
        x.pass(42);
        Due.is("the highest", x.count(2), 7);
        x.pass(5);
        Due.is("none, all are closed", x.count(2), NONE);
        x.open();
        x.pass(1);
        Due.is("the highest opens", x.count(2), 7);
    }

    private static void countOfClosedAndJammed() {
        Due.sentence("29: 3 for sections that are closed, 4 for those that are jammed");
        FloodBarrier x = Due.willing();
        for (int i = 0; i < 8; i++) {
            x.addSection(1, CREST, 1, 1);
        }
        x.close();
        for (int i = 1; i <= 8; i++) {
            x.pass(1);
            Due.is("closed", x.count(3), i);
            Due.is("jammed", x.count(4), 0);
        }
        x.open();
        for (int i = 7; i >= 0; i--) {
            x.pass(1);
            Due.is("closed", x.count(3), i);
        }
        x.close();
        for (int i = 1; i <= 8; i++) {
            x.pass(1);
            Due.is("jammed", x.count(4), i);
            Due.is("closed", x.count(3), 0);
        }
    }

    private static void countOfStates() {
        Due.sentence("29: 15 for the states in the history");
        FloodBarrier x = new FloodBarrier();
        for (int i = 1; i <= 7; i++) {
            x.addDistrict(1);
            Due.is("acts", x.count(15), Math.min(i, 5));
        }
        Due.is("the seventh was refused", x.count(12), 6);
    }

    private static void countOfTheText() {
        Due.sentence("29: 16 for the length of the text");
        FloodBarrier x = new FloodBarrier();
        Due.is("empty", x.count(16), 0);
        for (int i = 1; i <= 62; i++) {
            x.type('x');
            Due.is("typed", x.count(16), Math.min(i, 60));
        }
        x.clearText();
        Due.is("cleared", x.count(16), 0);
    }

    private static void countOfPumpsThatDidNotRun() {
        Due.sentence("29: 17 for the pumps that did not run in the latest hour that has passed");
        FloodBarrier x = threePumps();
        Due.is("0 at first", x.count(17), 0);
        x.forecast(48);
        x.shutIn();
        Due.is("0 still", x.count(17), 0);
        x.pass(1);
        Due.is("one has no power", x.count(17), 1);
        x.switchPump(0, false);
        x.addPump(1, 1);
        Due.is("the latest hour is as it was", x.count(17), 1);
        x.pass(1);
        Due.is("two are off", x.count(17), 2);
        x.set(1, 0);
        x.pass(1);
        Due.is("no power at all", x.count(17), 4);
        x.set(1, 600);
        x.switchPump(0, true);
        x.switchPump(3, true);
        x.pass(3);
        Due.is("all ran", x.count(17), 0);
        x.undo();
        Due.is("undone", x.count(17), 4);
        FloodBarrier y = Barriers.full();
        y.pass(1);
        Due.is("those that were off, too", y.count(17), 6);
        FloodBarrier z = new FloodBarrier();
        z.pass(1);
        Due.is("there is no pump", z.count(17), 0);
    }

    // ---- promises 22 to 29

    private static void tellingChangesNothing() {
        Due.sentence("22 to 29: what is told changes nothing");
        Refused.changesNothing("section", Barriers::busy, x -> x.section(1, 5), 2);
        Refused.changesNothing("pump", Barriers::busy, x -> x.pump(0, 3), 1);
        Refused.changesNothing("level", Barriers::busy,
                x -> Double.doubleToLongBits(x.level(2)), Due.bits(1.75));
        Refused.changesNothing("water", Barriers::busy, x -> x.water(3), 2250);
        Refused.changesNothing("forecast", Barriers::busy, x -> x.forecast(48) < 0.0 ? 1 : 0, 0);
        Refused.changesNothing("tide", Barriers::busy, x -> x.tide(9), Due.bits(2.75));
        Refused.changesNothing("count", Barriers::busy, x -> x.count(0), 7);
    }
}
