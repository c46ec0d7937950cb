/** "Terms", an hour passes: the edges of its six steps, worked out from the document by hand. */
public final class BoundsOfAnHourTest {
    private static final int NONE = Refused.NONE;

    private static final int OPEN = 0;
    private static final int CLOSING = 1;
    private static final int CLOSED = 2;
    private static final int OPENING = 3;
    private static final int JAMMED = 4;

    private static final long CREST = Barriers.CREST;
    private static final int HOURS_OF_THE_LONGEST_USE = 490 * 48;

    public static void main(String[] args) {
        restStartsNothing();
        nothingStartsWhileOneMoves();
        itGoesOnWhateverTheOrder();
        theLowestOpenOne();
        theHighestClosedOne();
        wornAtItsLife();
        nothingMoreBesidesAJam();
        restWhenNothingIsLeftToClose();
        restWhenNothingIsLeftToOpen();
        theLastHourLeft();

        noDifferenceOfLevels();
        lessThanACubicMetre();
        oneCubicMetre();
        justAsMuchAsThereIs();
        asMuchAsThereIsThen();
        outOfAnEmptyBasin();
        levelsAtTheBeginningOfTheStep();
        throughOneThatMoves();
        throughAJammedOne();
        roundedInTheOrderInWhichItIsWritten();
        dividedAsDoubles();

        levelAtTheCrest();
        crestsAtTheirBounds();
        overClosedOnesAlone();
        overBehindThrough();

        streamsBehindSections();
        streamThatBringsNothing();
        pumpsBehindStreams();
        powerAtTheLimit();
        limitAtItsBounds();
        oneThatFitsBehindOneThatDoesNot();
        pumpThatRunsDry();
        pumpAndJustAsMuch();
        offPumpsDrawNothing();

        dayWrapsAround();
        waterBeyondAnInt();
        theVolumeIsTheAccount();
        Due.end();
    }

    private static FloodBarrier basin(int area) {
        FloodBarrier x = Due.willing();
        x.set(0, area);
        return x;
    }

    /** Lets streams bring so much in one hour, without sections; below 400000. */
    private static void fill(FloodBarrier x, int water) {
        int left = water;
        for (int i = 0; i < 4; i++) {
            int part = Math.min(left, 99999);
            x.addStream(0);
            x.setStream(i, part);
            left -= part;
        }
        x.pass(1);
        for (int i = 0; i < 4; i++) {
            x.setStream(i, 0);
        }
        Due.is("filled", x.water(0), water);
    }

    // ---- step 1

    private static void restStartsNothing() {
        Due.sentence("1: if the order is close .. open: at rest nothing starts");
        FloodBarrier x = Barriers.withSections(2);
        x.pass(48);
        Barriers.sections(x, OPEN, OPEN);
        x.close();
        x.pass(3);
        Due.is("rest", x.count(1), 0);
        x.pass(45);
        Barriers.sections(x, CLOSED, CLOSED);
    }

    private static void nothingStartsWhileOneMoves() {
        Due.sentence("1: if no section moves");
        FloodBarrier x = Due.willing();
        x.addSection(1, CREST, 6, 2);
        x.addSection(1, CREST, 1, 2);
        x.close();
        for (int left = 5; left > 0; left--) {
            x.pass(1);
            Barriers.sections(x, CLOSING, OPEN);
            Due.is("hours left", x.section(0, 4), left);
            Due.is("the section that moves", x.count(2), 0);
        }
        x.pass(1);
        Barriers.sections(x, CLOSED, OPEN);
        Due.is("none moves", x.count(2), NONE);
        x.pass(1);
        Barriers.sections(x, CLOSED, CLOSED);
    }

    private static void itGoesOnWhateverTheOrder() {
        Due.sentence("Sections: it goes on, whatever the order becomes");
        FloodBarrier x = Due.willing();
        x.addSection(1, CREST, 2, 5);
        x.addSection(1, CREST, 2, 5);
        x.close();
        x.pass(1);
        x.open();
        x.pass(1);
        Barriers.sections(x, CLOSED, OPEN);
        x.pass(1);
        Barriers.sections(x, OPENING, OPEN);
        x.close();
        x.pass(1);
        Barriers.sections(x, OPEN, OPEN);
        x.pass(1);
        Barriers.sections(x, CLOSING, OPEN);
    }

    private static void theLowestOpenOne() {
        Due.sentence("1: the lowest open section; jammed ones are passed over");
        FloodBarrier x = Due.willing();
        x.addSection(1, CREST, 1, 1);
        x.close();
        x.pass(1);
        x.open();
        x.pass(1);
        for (int i = 1; i < 8; i++) {
            x.addSection(1, CREST, 1, 9);
        }
        x.close();
        Due.is("0 jams", x.pass(1), 1);
        for (int i = 1; i < 8; i++) {
            Due.is("section " + i + " is open", x.section(i, 3), OPEN);
            x.pass(1);
            Due.is("section " + i + " is closed", x.section(i, 3), CLOSED);
        }
        Barriers.sections(x, JAMMED, CLOSED, CLOSED, CLOSED, CLOSED, CLOSED, CLOSED, CLOSED);
    }

    private static void theHighestClosedOne() {
        Due.sentence("1: the highest closed section; jammed ones are passed over");
        FloodBarrier x = Due.willing();
        x.addSection(1, CREST, 1, 9);
        x.addSection(1, CREST, 1, 9);
        x.addSection(1, CREST, 1, 1);
        x.close();
        x.pass(3);
        x.open();
        x.pass(3);
        x.close();
        Due.is("2 jams", x.pass(3), 1);
        x.open();
        x.pass(1);
        Barriers.sections(x, CLOSED, OPEN, JAMMED);
        x.pass(1);
        Barriers.sections(x, OPEN, OPEN, JAMMED);
    }

    private static void wornAtItsLife() {
        Due.sentence("1: if it has closed as often as its life allows, it jams instead");
        for (int life = 1; life <= 20; life++) {
            FloodBarrier x = Due.willing();
            x.addSection(1, CREST, 1, life);
            for (int i = 1; i <= life; i++) {
                x.close();
                Due.is("closes for the time " + i, x.pass(1), 0);
                Barriers.sections(x, CLOSED);
                x.open();
                x.pass(1);
            }
            x.close();
            Due.is("jams after " + life, x.pass(1), 1);
            Barriers.sections(x, JAMMED);
            Due.is("has closed", x.section(0, 5), life);
            Due.is("has no hours left", x.section(0, 4), NONE);
        }
    }

    private static void nothingMoreBesidesAJam() {
        Due.sentence("1: (and nothing more happens in this step in this hour)");
        FloodBarrier x = Due.willing();
        x.addSection(1, CREST, 1, 1);
        x.close();
        x.pass(1);
        x.open();
        x.pass(1);
        x.close();
        Due.is("jams", x.pass(1), 1);
        Due.is("the order is close still", x.count(1), 1);
        x.pass(1);
        Due.is("then it is rest", x.count(1), 0);
        x.service(0);
        x.addSection(1, CREST, 1, 1);
        x.pass(1);
        Barriers.sections(x, OPEN, OPEN);
    }

    private static void restWhenNothingIsLeftToClose() {
        Due.sentence("1: if there is no open section, the order becomes rest");
        FloodBarrier x = Barriers.withSections(8);
        x.close();
        x.pass(8);
        Due.is("eight are closed", x.count(3), 8);
        Due.is("the order is close still", x.count(1), 1);
        x.pass(1);
        Due.is("the order is rest", x.count(1), 0);
        x.addSection(1, CREST, 1, 1);
        Due.is("it is no closing", x.count(7), 1);
    }

    private static void restWhenNothingIsLeftToOpen() {
        Due.sentence("1: if there is none, the order becomes rest");
        FloodBarrier x = Barriers.withSections(8);
        x.close();
        x.pass(8);
        x.open();
        x.pass(8);
        Due.is("none is closed", x.count(3), 0);
        Due.is("the order is open still", x.count(1), 2);
        x.pass(1);
        Due.is("the order is rest", x.count(1), 0);
    }

    private static void theLastHourLeft() {
        Due.sentence("5: if they are 0, it is closed (and has closed once more), or open");
        for (int hours = 1; hours <= 6; hours++) {
            FloodBarrier x = Due.willing();
            x.addSection(1, CREST, hours, 9);
            x.close();
            for (int left = hours - 1; left > 0; left--) {
                x.pass(1);
                Due.is("hours left", x.section(0, 4), left);
                Due.is("has not closed yet", x.section(0, 5), 0);
            }
            x.pass(1);
            Barriers.sections(x, CLOSED);
            Due.is("no hours left", x.section(0, 4), NONE);
            Due.is("has closed", x.section(0, 5), 1);
            x.open();
            for (int left = hours - 1; left > 0; left--) {
                x.pass(1);
                Barriers.sections(x, OPENING);
                Due.is("hours left", x.section(0, 4), left);
            }
            x.pass(1);
            Barriers.sections(x, OPEN);
            Due.is("has closed", x.section(0, 5), 1);
        }
    }

    // ---- step 2, through

    private static void noDifferenceOfLevels() {
        Due.sentence("2: if w is above 0 .. below 0: at 0 nothing flows");
        FloodBarrier x = basin(100000);
        fill(x, 100000);
        x.addSection(50, CREST, 1, 1);
        Barriers.setTides(x, 1.0);
        x.pass(1);
        Due.is("inner", x.level(1), 1.0);
        Due.is("in", x.water(1), 0);
        Due.is("out", x.water(2), 0);
    }

    private static FloodBarrier flow(double difference) {
        FloodBarrier x = basin(100000);
        fill(x, 100000);
        x.addSection(1, CREST, 1, 1);
        Barriers.setTides(x, 1.0 + difference);
        x.pass(1);
        Due.is("volume", x.water(0), 100000 + x.water(1) - x.water(2));
        return x;
    }

    private static void lessThanACubicMetre() {
        Due.sentence("Numbers: (long) drops what is behind the point");
        Due.is("0.99 is none in", flow(0.99 / 900.0).water(1), 0);
        Due.is("-0.99 is none in", flow(-0.99 / 900.0).water(1), 0);
        Due.is("-0.99 is none out", flow(-0.99 / 900.0).water(2), 0);
    }

    private static void oneCubicMetre() {
        Due.sentence("2: so much flows in; -w flows out");
        Due.is("1.01 in", flow(1.01 / 900.0).water(1), 1);
        Due.is("1.01 in, none out", flow(1.01 / 900.0).water(2), 0);
        Due.is("1.99 in", flow(1.99 / 900.0).water(1), 1);
        Due.is("2.01 in", flow(2.01 / 900.0).water(1), 2);
        Due.is("-1.01 out", flow(-1.01 / 900.0).water(2), 1);
        Due.is("-1.01 out, none in", flow(-1.01 / 900.0).water(1), 0);
        Due.is("-1.99 out", flow(-1.99 / 900.0).water(2), 1);
        Due.is("-2.01 out", flow(-2.01 / 900.0).water(2), 2);
    }

    /** Area 1000, a tide of -5.0: w is -(0.9 * volume + 4500), which is -volume at 45000. */
    private static FloodBarrier drained(int volume, int sections) {
        FloodBarrier x = basin(1000);
        fill(x, volume);
        for (int i = 0; i < sections; i++) {
            x.addSection(1, CREST, 1, 1);
        }
        Barriers.setTides(x, -5.0);
        x.pass(1);
        return x;
    }

    private static void justAsMuchAsThereIs() {
        Due.sentence("2: -w flows out, or as much as there is in the basin");
        Due.is("just as much", drained(45000, 1).water(2), 45000);
        Due.is("none is left", drained(45000, 1).water(0), 0);
        Due.is("a little more than there is", drained(44900, 1).water(2), 44900);
        Due.is("none is left", drained(44900, 1).water(0), 0);
        Due.is("less than there is", drained(45102, 1).water(2), 45091);
        Due.is("eleven are left", drained(45102, 1).water(0), 11);
        Due.is("one is there", drained(1, 1).water(2), 1);
    }

    private static void asMuchAsThereIsThen() {
        Due.sentence("2: by its number .. as much as there is in the basin then");
        Due.is("58500 by the first, 1500 by the second", drained(60000, 2).water(2), 60000);
        Due.is("none is left", drained(60000, 2).water(0), 0);
        Due.is("none for the third", drained(60000, 3).water(2), 60000);
        Due.is("the first alone", drained(60000, 1).water(2), 58500);
    }

    private static void outOfAnEmptyBasin() {
        Due.sentence("Basin: the volume is never below 0");
        FloodBarrier x = Due.willing();
        x.addSection(50, CREST, 1, 1);
        Barriers.setTides(x, -5.0);
        x.addPump(1, 99999);
        x.switchPump(0, true);
        x.pass(48);
        Due.is("volume", x.water(0), 0);
        Due.is("out", x.water(2), 0);
        Due.is("pumped", x.water(5), 0);
        Due.is("inner", x.level(1), 0.0);
    }

    private static void levelsAtTheBeginningOfTheStep() {
        Due.sentence("2: by the levels as they are at the beginning of this step");
        FloodBarrier x = basin(1000);
        x.addSection(1, CREST, 1, 1);
        x.addSection(1, CREST, 1, 1);
        x.setTide(0, Due.bits(1.0));
        x.pass(1);
        Due.is("900 through each", x.water(1), 1800);
        Due.is("none out", x.water(2), 0);
        FloodBarrier y = basin(1000);
        fill(y, 1000);
        y.addSection(1, CREST, 1, 1);
        y.addSection(1, CREST, 1, 1);
        y.pass(1);
        Due.is("900 through the first, what is left through the second", y.water(2), 1000);
        Due.is("none in", y.water(1), 0);
    }

    private static void throughOneThatMoves() {
        Due.sentence("2: a section that moves lets water through as an open one");
        FloodBarrier x = basin(1000000);
        x.addSection(1, 0L, 2, 9);
        Barriers.setTides(x, 1.0);
        x.close();
        x.pass(1);
        Due.is("closing, its first hour", x.water(1), 900);
        x.pass(1);
        Barriers.sections(x, CLOSED);
        Due.is("closing, its last hour", x.water(1), 1799);
        Due.is("nothing over it yet", x.water(3), 0);
        x.pass(1);
        Due.is("closed", x.water(1), 1799);
        Due.is("over it", x.water(3), 450);
        x.open();
        x.pass(1);
        Barriers.sections(x, OPENING);
        Due.that("opening, its first hour", x.water(1) > 1799);
        Due.is("nothing over it then", x.water(3), 450);
        long before = x.water(1);
        x.pass(1);
        Barriers.sections(x, OPEN);
        Due.that("opening, its last hour", x.water(1) > before);
        Due.is("nor then", x.water(3), 450);
    }

    private static void throughAJammedOne() {
        Due.sentence("2: a section that is jammed lets water through as an open one");
        FloodBarrier x = basin(1000000);
        x.addSection(1, 0L, 1, 1);
        x.close();
        x.pass(1);
        x.open();
        x.pass(1);
        x.close();
        Barriers.setTides(x, 1.0);
        Due.is("it jams", x.pass(1), 1);
        Due.is("in the hour in which it jams", x.water(1), 900);
        Due.is("nothing over it", x.water(3), 0);
        x.pass(1);
        Due.is("and behind it", x.water(1), 900 + (long) (900.0 * (1.0 - 900.0 / 1000000.0)));
    }

    private static void roundedInTheOrderInWhichItIsWritten() {
        Due.sentence("Numbers: rounded by itself, in the order in which it is written");
        int found = 0;
        for (int tenths = 1; tenths < 100; tenths++) {
            for (int width = 1; width <= 50; width++) {
                double outer = tenths / 10.0;
                long due = (long) ((width * 900.0) * outer);
                long other = (long) (width * (900.0 * outer));
                if (due == other) {
                    continue;
                }
                found++;
                FloodBarrier x = new FloodBarrier();
                x.addSection(width, CREST, 1, 1);
                x.setTide(0, Due.bits(outer));
                x.pass(1);
                Due.is(width + " * 900.0 * " + outer, x.water(1), due);
            }
        }
        Due.that("there are such widths and levels", found > 0);
    }

    private static void dividedAsDoubles() {
        Due.sentence("Basin: the inner level is (double) volume / area");
        FloodBarrier x = basin(1000000);
        fill(x, 1);
        Due.is("1 in 1000000", x.level(1), 1.0 / 1000000.0);
        x.set(0, 1000);
        Due.is("1 in 1000", x.level(1), 1.0 / 1000.0);
        x.set(0, 999999);
        Due.is("1 in 999999", x.level(1), 1.0 / 999999.0);
        FloodBarrier y = basin(1000);
        fill(y, 399996);
        Due.is("399996 in 1000", y.level(1), 399996.0 / 1000.0);
    }

    // ---- step 2, over

    /** The water that flows over one closed section in one hour. */
    private static long over(int width, double crest, double tide) {
        FloodBarrier x = Due.willing();
        x.addSection(width, Due.bits(crest), 1, 1);
        x.close();
        x.pass(1);
        Barriers.sections(x, CLOSED);
        Barriers.setTides(x, tide);
        x.pass(1);
        Due.is("nothing through it", x.water(1) + x.water(2), 0);
        Due.is("volume", x.water(0), x.water(3));
        return x.water(3);
    }

    private static void levelAtTheCrest() {
        Due.sentence("2: over each closed section whose crest is below the outer level");
        Due.is("at the crest", over(50, 2.0, 2.0), 0);
        Due.is("just above it", over(50, 2.0, Math.nextUp(2.0)), 0);
        Due.is("above it, less than a cubic metre", over(1, 2.0, 2.0 + 0.99 / 450.0), 0);
        Due.is("above it by one cubic metre", over(1, 2.0, 2.0 + 1.01 / 450.0), 1);
        Due.is("above it by a metre", over(1, 2.0, 3.0), 450);
        Due.is("just below it", over(50, 2.0, Math.nextDown(2.0)), 0);
        Due.is("below it by a metre", over(50, 2.0, 1.0), 0);
        Due.is("far below it", over(50, 2.0, -5.0), 0);
    }

    private static void crestsAtTheirBounds() {
        Due.sentence("Sections: a crest (a level from 0.0 to 10.0)");
        Due.is("0.0, the tide 0.0", over(50, 0.0, 0.0), 0);
        Due.is("0.0, the tide -0.0", over(50, 0.0, -0.0), 0);
        Due.is("0.0, the tide above", over(50, 0.0, 1.0), 22500);
        Due.is("0.0, the highest tide", over(50, 0.0, 10.0), 225000);
        Due.is("0.0, a tide below", over(50, 0.0, -1.0), 0);
        Due.is("10.0, the highest tide", over(50, 10.0, 10.0), 0);
        Due.is("the least, a tide of 1.0", over(50, Double.MIN_VALUE, 1.0), 22500);
        Due.is("in the order written", over(7, 1.7, 3.3), (long) (7 * 450.0 * (3.3 - 1.7)));
    }

    private static void overClosedOnesAlone() {
        Due.sentence("2: over each closed section, by its number");
        FloodBarrier x = basin(1000000);
        x.addSection(2, Due.bits(1.0), 1, 9);
        x.addSection(3, Due.bits(0.5), 1, 9);
        x.addSection(4, Due.bits(0.0), 1, 9);
        x.close();
        x.pass(2);
        Barriers.sections(x, CLOSED, CLOSED, OPEN);
        x.open();
        x.setTide(2, Due.bits(2.0));
        x.pass(1);
        Barriers.sections(x, CLOSED, OPEN, OPEN);
        Due.is("over the first, not over the one that opened", x.water(3), 2 * 450);
        Due.is("through the two others", x.water(1), 7 * 1800);
    }

    private static void overBehindThrough() {
        Due.sentence("2: then, over each closed section");
        FloodBarrier x = basin(1000);
        x.addSection(50, 0L, 1, 9);
        x.close();
        x.pass(1);
        fill(x, 2000);
        x.addSection(50, 0L, 6, 9);
        Barriers.setTides(x, 1.0);
        x.pass(1);
        Barriers.sections(x, CLOSED, OPEN);
        Due.is("out, all that was there", x.water(2), 2000);
        Due.is("over, behind that", x.water(3), 22500);
        Due.is("volume", x.water(0), 22500);
    }

    // ---- steps 3 and 4

    private static void streamsBehindSections() {
        Due.sentence("3: each stream brings its water: behind step 2");
        FloodBarrier x = basin(1000);
        x.addSection(50, CREST, 1, 1);
        x.addStream(500);
        Barriers.setTides(x, -5.0);
        x.pass(1);
        Due.is("nothing was there to flow out", x.water(2), 0);
        Due.is("brought", x.water(4), 500);
        Due.is("volume", x.water(0), 500);
        x.pass(1);
        Due.is("now it flows out", x.water(2), 500);
    }

    private static void streamThatBringsNothing() {
        Due.sentence("3: (0 to 99999)");
        FloodBarrier x = new FloodBarrier();
        x.addStream(0);
        x.pass(48);
        Due.is("0", x.water(4), 0);
        x.setStream(0, 99999);
        x.pass(48);
        Due.is("99999", x.water(4), 48L * 99999);
    }

    private static void pumpsBehindStreams() {
        Due.sentence("4: it moves its cubic metres out: behind step 3");
        FloodBarrier x = new FloodBarrier();
        x.addStream(500);
        x.addPump(1, 400);
        x.switchPump(0, true);
        x.pass(1);
        Due.is("what the stream has brought", x.water(5), 400);
        Due.is("volume", x.water(0), 100);
    }

    private static FloodBarrier pumps(int limit, int... powers) {
        FloodBarrier x = new FloodBarrier();
        x.set(1, limit);
        for (int i = 0; i < powers.length; i++) {
            x.addPump(powers[i], 1);
            x.switchPump(i, true);
        }
        return x;
    }

    /** Looks which pumps would run in the next hour, and which do. */
    private static void run(FloodBarrier x, int... runs) {
        int idle = 0;
        for (int i = 0; i < runs.length; i++) {
            Due.is("pump(" + i + ", 3)", x.pump(i, 3), runs[i]);
            idle += 1 - runs[i];
        }
        x.pass(1);
        for (int i = 0; i < runs.length; i++) {
            Due.is("pump(" + i + ", 4)", x.pump(i, 4), runs[i]);
        }
        Due.is("count(17)", x.count(17), idle);
    }

    private static void powerAtTheLimit() {
        Due.sentence("4: are not more than the limit");
        run(pumps(60, 60), 1);
        run(pumps(59, 60), 0);
        run(pumps(61, 60), 1);
        run(pumps(100, 60, 40), 1, 1);
        run(pumps(99, 60, 40), 1, 0);
        run(pumps(101, 60, 41), 1, 1);
    }

    private static void limitAtItsBounds() {
        Due.sentence("Pumps: the limit of power is from 0 to 600");
        run(pumps(0, 1, 1), 0, 0);
        run(pumps(1, 1, 1), 1, 0);
        run(pumps(600, 99, 99, 99, 99, 99, 99), 1, 1, 1, 1, 1, 1);
        run(pumps(594, 99, 99, 99, 99, 99, 99), 1, 1, 1, 1, 1, 1);
        run(pumps(593, 99, 99, 99, 99, 99, 99), 1, 1, 1, 1, 1, 0);
    }

    private static void oneThatFitsBehindOneThatDoesNot() {
        Due.sentence("4: its power and that of the pumps that run already in this hour");
        run(pumps(100, 60, 50, 40, 1), 1, 0, 1, 0);
        run(pumps(100, 99, 2, 1), 1, 0, 1);
        run(pumps(10, 11, 10, 1), 0, 1, 0);
    }

    private static void pumpThatRunsDry() {
        Due.sentence("4: (a pump that runs dry has run, too)");
        FloodBarrier x = pumps(100, 60, 40, 1);
        run(x, 1, 1, 0);
        Due.is("moved", x.water(5), 0);
        Due.is("volume", x.water(0), 0);
    }

    private static FloodBarrier pumped(int stream, int... waters) {
        FloodBarrier x = new FloodBarrier();
        x.addStream(stream);
        for (int i = 0; i < waters.length; i++) {
            x.addPump(1, waters[i]);
            x.switchPump(i, true);
        }
        x.pass(1);
        return x;
    }

    private static void pumpAndJustAsMuch() {
        Due.sentence("4: it moves its cubic metres out, or as many as there are in the basin then");
        Due.is("one more than there is", pumped(499, 500).water(5), 499);
        Due.is("just as many", pumped(500, 500).water(5), 500);
        Due.is("none is left", pumped(500, 500).water(0), 0);
        Due.is("one less than there is", pumped(501, 500).water(5), 500);
        Due.is("one is left", pumped(501, 500).water(0), 1);
        Due.is("the second takes the rest", pumped(700, 500, 500).water(5), 700);
        Due.is("none for the third", pumped(700, 500, 500, 500).water(5), 700);
    }

    private static void offPumpsDrawNothing() {
        Due.sentence("4: each pump that is on");
        FloodBarrier x = pumps(50, 40, 30, 20);
        x.switchPump(0, false);
        run(x, 0, 1, 1);
        FloodBarrier y = pumps(100, 10, 10);
        y.switchPump(0, false);
        y.switchPump(1, false);
        run(y, 0, 0);
    }

    // ---- step 6, and all of them

    private static void dayWrapsAround() {
        Due.sentence("Tide: the outer level in an hour is that of hour % 24");
        FloodBarrier x = new FloodBarrier();
        for (int hour = 0; hour < 24; hour++) {
            x.setTide(hour, Due.bits(hour / 4.0 - 1.0));
        }
        for (int hour = 0; hour < 100; hour++) {
            Due.is("the hour", x.count(0), hour);
            Due.is("level(0) in hour " + hour, x.level(0), hour % 24 / 4.0 - 1.0);
            x.pass(1);
        }
        FloodBarrier y = new FloodBarrier();
        y.set(0, 1000000);
        y.addSection(1, CREST, 1, 1);
        y.setTide(0, Due.bits(5.0));
        y.pass(1);
        Due.is("in hour 0", y.water(1), 4500);
        long before = y.water(1);
        y.pass(23);
        Due.is("in the hours 1 to 23", y.water(1), before);
        y.pass(1);
        Due.that("in hour 24", y.water(1) > before);
    }

    private static void waterBeyondAnInt() {
        Due.sentence("Numbers: water is counted in whole cubic metres, as longs");
        FloodBarrier x = new FloodBarrier();
        for (int i = 0; i < 4; i++) {
            x.addStream(99999);
        }
        for (int i = 0; i < HOURS_OF_THE_LONGEST_USE / 48; i++) {
            x.pass(48);
        }
        long due = 4L * 99999 * HOURS_OF_THE_LONGEST_USE;
        Due.is("the hour", x.count(0), HOURS_OF_THE_LONGEST_USE);
        Due.is("volume", x.water(0), due);
        Due.is("brought", x.water(4), due);
        Due.is("inner", x.level(1), (double) due / 100000);
        x.set(0, 1000);
        x.addSection(50, CREST, 1, 1);
        x.pass(1);
        Due.is("all of it flows out", x.water(2), due);
        Due.is("volume", x.water(0), 4 * 99999);
    }

    private static void theVolumeIsTheAccount() {
        Due.sentence("What it is: an account of all water in whole cubic metres");
        FloodBarrier x = Barriers.busy();
        for (int i = 0; i < 40; i++) {
            x.setTide(i % 24, Due.bits(i % 7 * 1.3 - 2.0));
            if (i % 10 == 0) {
                x.open();
            } else if (i % 10 == 5) {
                x.close();
            }
            x.pass(1 + i % 5);
            Due.is("volume", x.water(0),
                    x.water(1) - x.water(2) + x.water(3) + x.water(4) - x.water(5));
            Due.that("not below 0", x.water(0) >= 0);
        }
    }
}
