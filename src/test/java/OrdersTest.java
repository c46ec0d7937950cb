/** Promises 11 to 15: orders, and the six steps of an hour that passes. */
public final class OrdersTest {
    private static final int UNKNOWN = -1;
    private static final int BAD = -2;
    private static final int NOT_POSSIBLE = -4;
    private static final int NONE = -5;

    private static final int OPEN = 0;
    private static final int CLOSING = 1;
    private static final int CLOSED = 2;
    private static final int OPENING = 3;
    private static final int JAMMED = 4;

    private static final long HIGH_CREST = Due.bits(9.0);

    public static void main(String[] args) {
        promise11();
        promise12();
        drills();
        promise13();
        promise14();
        promise15();
        sectionsOneBehindTheOther();
        sectionsThatJam();
        waterThrough();
        oneCubicMetre();
        waterOver();
        streamsAndPumps();
        tideOfTheDay();
        Due.end();
    }

    private static void sections(FloodBarrier x, int... conditions) {
        for (int i = 0; i < conditions.length; i++) {
            Due.is("section(" + i + ", 3)", x.section(i, 3), conditions[i]);
        }
    }

    private static void promise11() {
        FloodBarrier x = new FloodBarrier();
        Due.is("11: no district", x.vote(0, true), UNKNOWN);
        x.addDistrict(10);
        x.addDistrict(20);
        Due.is("11: district -1", x.vote(-1, true), UNKNOWN);
        Due.is("11: district 2", x.vote(2, false), UNKNOWN);
        Due.is("11: not for it already", x.vote(0, false), NONE);
        Due.is("11: for it", x.vote(0, true), 10);
        Due.is("11: for it already", x.vote(0, true), NONE);
        Due.is("11: both", x.vote(1, true), 30);
        Due.is("11: not for it", x.vote(0, false), 20);
        Due.is("11: count(5)", x.count(5), 20);
        Due.is("11: acts", x.count(15), 5);
        x.undo();
        Due.is("11: undone", x.count(5), 30);
    }

    private static void promise12() {
        FloodBarrier x = new FloodBarrier();
        Due.is("12: no section, no district", x.close(), NOT_POSSIBLE);
        x.addSection(1, HIGH_CREST, 2, 1);
        Due.is("12: no district", x.close(), NOT_POSSIBLE);
        x.addDistrict(10);
        x.addDistrict(10);
        x.vote(1, true);
        Due.is("12: just half", x.close(), NOT_POSSIBLE);
        x.addDistrict(1);
        Due.is("12: less than half", x.close(), NOT_POSSIBLE);
        x.vote(2, true);
        Due.is("12: nothing was begun", x.count(7), 0);
        int before = x.count(15);
        Due.is("12: 11 of 21", x.close(), 1);
        Due.is("12: the order", x.count(1), 1);
        Due.is("12: begun", x.count(7), 1);
        Due.is("12: an act", x.count(15), Math.min(before + 1, 5));
        Due.is("12: so already", x.close(), NONE);
        x.vote(2, false);
        Due.is("12: the votes come before the order", x.close(), NOT_POSSIBLE);
        Due.is("12: the order stays", x.count(1), 1);
        x.vote(2, true);
        x.pass(1);
        sections(x, CLOSING);
        Due.is("12: closing, so already", x.close(), NONE);
        x.pass(1);
        sections(x, CLOSED);
        Due.is("12: all are closed", x.close(), NOT_POSSIBLE);
        Due.is("12: the order is still close", x.count(1), 1);
        x.open();
        Due.is("12: still closed", x.close(), NOT_POSSIBLE);
        x.pass(1);
        sections(x, OPENING);
        Due.is("12: opening", x.close(), 1);
        Due.is("12: begun twice", x.count(7), 2);
        x.undo();
        Due.is("12: undone", x.count(7), 1);
        Due.is("12: undone order", x.count(1), 2);
    }

    private static void drills() {
        FloodBarrier x = Due.willing();
        x.addSection(1, HIGH_CREST, 1, 20);
        x.setTide(0, Due.bits(2.0));
        Due.is("12: at the alarm", x.close(), 0);
        Due.is("12: no drill", x.count(8), 0);
        x.undo();
        x.setTide(0, Due.bits(Math.nextDown(2.0)));
        Due.is("12: just below the alarm", x.close(), 1);
        Due.is("12: a drill", x.count(8), 1);
        x.undo();
        x.setAlarm(Due.bits(-0.0));
        x.setTide(0, Due.bits(0.0));
        Due.is("12: 0.0 is not less than -0.0", x.close(), 0);
        x.undo();
        x.setAlarm(Due.bits(2.0));
        x.setTide(1, Due.bits(3.0));
        x.pass(1);
        Due.is("12: by the hour that is", x.close(), 0);
        Due.is("12: count(7)", x.count(7), 1);
        Due.is("12: count(8)", x.count(8), 0);
    }

    private static void promise13() {
        FloodBarrier x = Due.willing();
        Due.is("13: no section", x.open(), NOT_POSSIBLE);
        x.addSection(1, HIGH_CREST, 2, 1);
        x.addSection(1, HIGH_CREST, 1, 1);
        Due.is("13: all are open", x.open(), NOT_POSSIBLE);
        x.close();
        Due.is("13: none closes yet", x.open(), NOT_POSSIBLE);
        x.pass(1);
        Due.is("13: one is closing", x.open(), 0);
        Due.is("13: the order", x.count(1), 2);
        Due.is("13: so already", x.open(), NONE);
        x.undo();
        Due.is("13: undone", x.count(1), 1);
        x.pass(2);
        sections(x, CLOSED, CLOSED);
        Due.is("13: both are closed", x.open(), 2);
        x.pass(1);
        sections(x, CLOSED, OPEN);
        x.pass(1);
        sections(x, OPENING, OPEN);
        Due.is("13: opening, so already", x.open(), NONE);
        x.pass(1);
        sections(x, OPEN, OPEN);
        Due.is("13: all are open, though the order is open", x.open(), NOT_POSSIBLE);
        Due.is("13: the order is still open", x.count(1), 2);
        x.pass(1);
        Due.is("13: rest", x.count(1), 0);
        anOpeningIsAnAct();
    }

    private static void anOpeningIsAnAct() {
        FloodBarrier x = new FloodBarrier();
        x.addSection(1, HIGH_CREST, 1, 1);
        x.addDistrict(1);
        x.vote(0, true);
        x.close();
        x.pass(2);
        x.keep();
        x.undo();
        x.undo();
        x.undo();
        x.undo();
        x.restore();
        Due.is("13: states", x.count(15), 2);
        Due.is("13: one is closed", x.open(), 1);
        Due.is("13: an act", x.count(15), 3);
        Due.is("step 1: an opening is no jam", x.pass(1), 0);
        x.undo();
        Due.is("13: undone", x.undo(), 2);
        Due.is("13: rest again", x.count(1), 0);
    }

    private static void promise14() {
        FloodBarrier x = Due.willing();
        Due.is("14: no section", x.service(0), UNKNOWN);
        x.addSection(1, HIGH_CREST, 2, 2);
        Due.is("14: section -1", x.service(-1), UNKNOWN);
        Due.is("14: section 1", x.service(1), UNKNOWN);
        Due.is("14: new", x.service(0), NONE);
        x.close();
        x.pass(1);
        Due.is("14: closing", x.service(0), NOT_POSSIBLE);
        x.pass(1);
        Due.is("14: closed", x.service(0), NOT_POSSIBLE);
        x.open();
        x.pass(1);
        Due.is("14: opening", x.service(0), NOT_POSSIBLE);
        x.pass(1);
        sections(x, OPEN);
        Due.is("14: has closed", x.section(0, 5), 1);
        Due.is("14: open", x.service(0), 1);
        Due.is("14: serviced", x.section(0, 5), 0);
        Due.is("14: serviced already", x.service(0), NONE);
        x.undo();
        Due.is("14: undone", x.section(0, 5), 1);
        x.close();
        x.pass(2);
        x.open();
        x.pass(2);
        x.close();
        Due.is("14: jams", x.pass(1), 1);
        sections(x, JAMMED);
        Due.is("14: jammed", x.service(0), 2);
        sections(x, OPEN);
        Due.is("14: serviced", x.section(0, 5), 0);
        x.pass(1);
        sections(x, CLOSING);
    }

    private static void promise15() {
        FloodBarrier x = Due.willing();
        Due.is("15: 0 hours", x.pass(0), BAD);
        Due.is("15: 49 hours", x.pass(49), BAD);
        Due.is("15: -1 hours", x.pass(-1), BAD);
        int before = x.count(15);
        Due.is("15: 48 hours", x.pass(48), 0);
        Due.is("15: one act", x.count(15), before + 1);
        Due.is("15: the hour", x.count(0), 48);
        Due.is("15: 1 hour", x.pass(1), 0);
        Due.is("15: the hour", x.count(0), 49);
        x.undo();
        x.undo();
        Due.is("15: undone", x.count(0), 0);
        x.addSection(1, HIGH_CREST, 1, 1);
        x.addSection(1, HIGH_CREST, 1, 1);
        x.close();
        Due.is("15: none jams", x.pass(2), 0);
        x.open();
        x.pass(2);
        x.close();
        Due.is("15: both jam", x.pass(2), 2);
        Due.is("15: they jam once", x.pass(48), 0);
        Due.is("15: jammed", x.count(4), 2);
    }

    private static void sectionsOneBehindTheOther() {
        FloodBarrier x = Due.willing();
        x.addSection(1, HIGH_CREST, 3, 5);
        x.addSection(1, HIGH_CREST, 1, 5);
        x.addSection(1, HIGH_CREST, 2, 5);
        x.close();
        Due.is("step 1: none moves yet", x.count(2), NONE);
        int[] moving = {0, 0, NONE, NONE, 2, NONE};
        int[] left = {2, 1, NONE, NONE, 1, NONE};
        for (int i = 0; i < 6; i++) {
            x.pass(1);
            Due.is("step 1: moves in hour " + i, x.count(2), moving[i]);
            Due.is("step 5: left in hour " + i, x.section(i < 4 ? 0 : 2, 4), left[i]);
        }
        sections(x, CLOSED, CLOSED, CLOSED);
        Due.is("step 1: the order stays till the next hour", x.count(1), 1);
        x.pass(1);
        Due.is("step 1: then it is rest", x.count(1), 0);
        Due.is("step 1: closed", x.count(3), 3);
        x.open();
        x.pass(1);
        sections(x, CLOSED, CLOSED, OPENING);
        x.close();
        x.pass(1);
        sections(x, CLOSED, CLOSED, OPEN);
        Due.is("step 5: opening is no closing", x.section(2, 5), 1);
        x.pass(1);
        sections(x, CLOSED, CLOSED, CLOSING);
        x.open();
        Due.is("step 5: it goes on, whatever the order", x.pass(1), 0);
        sections(x, CLOSED, CLOSED, CLOSED);
        Due.is("step 5: closed once more", x.section(2, 5), 2);
        x.pass(3);
        sections(x, CLOSED, OPEN, OPEN);
        x.pass(3);
        sections(x, OPEN, OPEN, OPEN);
        Due.is("step 1: the order is still open", x.count(1), 2);
        x.pass(1);
        Due.is("step 1: then it is rest again", x.count(1), 0);
    }

    private static void sectionsThatJam() {
        FloodBarrier x = Due.willing();
        x.addSection(1, HIGH_CREST, 1, 5);
        x.addSection(1, HIGH_CREST, 1, 1);
        x.addSection(1, HIGH_CREST, 1, 5);
        x.close();
        x.pass(3);
        x.open();
        x.pass(4);
        x.close();
        Due.is("step 1: none jams", x.pass(1), 0);
        Due.is("step 1: jams", x.pass(1), 1);
        sections(x, CLOSED, JAMMED, OPEN);
        Due.is("step 1: nothing more in that hour", x.count(2), NONE);
        x.pass(1);
        sections(x, CLOSED, JAMMED, CLOSED);
        Due.is("13: jammed ones do not count", x.open(), 2);
        x.pass(2);
        sections(x, OPEN, JAMMED, OPEN);
        x.pass(1);
        Due.is("step 1: rest with a jammed one", x.count(1), 0);
        Due.is("count(4)", x.count(4), 1);
        x = Due.willing();
        x.addSection(1, HIGH_CREST, 1, 1);
        x.close();
        x.pass(1);
        x.open();
        x.pass(1);
        x.close();
        x.pass(1);
        sections(x, JAMMED);
        Due.is("12: all are jammed", x.close(), NOT_POSSIBLE);
        Due.is("13: all are jammed", x.open(), NOT_POSSIBLE);
    }

    private static void waterThrough() {
        FloodBarrier x = Due.willing();
        x.set(0, 1000);
        x.addSection(7, HIGH_CREST, 2, 1);
        x.addSection(3, HIGH_CREST, 1, 1);
        x.setTide(0, Due.bits(1.0 / 3.0));
        x.setTide(1, Due.bits(2.0));
        x.pass(1);
        long first = (long) (7 * 900.0 * (1.0 / 3.0)) + (long) (3 * 900.0 * (1.0 / 3.0));
        Due.is("step 2: in by both", x.water(1), first);
        Due.is("step 2: volume", x.water(0), first);
        Due.is("step 2: inner", x.level(1), (double) first / 1000);
        x.undo();
        x.addStream(100);
        x.pass(1);
        Due.is("step 2: the level at its beginning, before the streams", x.water(1), first);
        double inner = (double) (first + 100) / 1000;
        long out = -(long) (7 * 900.0 * (2.0 - inner));
        long out2 = -(long) (3 * 900.0 * (2.0 - inner));
        x.pass(1);
        Due.is("step 2: out, or as much as there is", x.water(2), Math.min(first + 100, out + out2));
        x = Due.willing();
        x.addSection(7, HIGH_CREST, 2, 1);
        x.addSection(3, HIGH_CREST, 1, 1);
        x.addStream(99999);
        x.setTide(0, Due.bits(-1.5));
        x.pass(1);
        Due.is("step 2: nothing is there", x.water(2), 0);
        Due.is("step 2: nothing flows in", x.water(1), 0);
        x.pass(1);
        double high = 99999.0 / 100000;
        long gone = (long) (7 * 900.0 * high) + (long) (3 * 900.0 * high);
        Due.is("step 2: out by both", x.water(2), gone);
        Due.is("step 2: volume then", x.water(0), 2L * 99999 - gone);
        x.setStream(0, 0);
        x.close();
        long before = x.water(2);
        x.pass(1);
        sections(x, CLOSING, OPEN);
        Due.that("step 2: a closing one lets water through", x.water(2) > before);
        x.pass(2);
        sections(x, CLOSED, CLOSED);
        before = x.water(2);
        x.pass(1);
        Due.is("step 2: closed ones do not", x.water(2), before);
        x.open();
        x.pass(2);
        sections(x, OPENING, OPEN);
        Due.that("step 2: an opening one does", x.water(2) > before);
    }

    private static void oneCubicMetre() {
        FloodBarrier x = new FloodBarrier();
        x.set(0, 1000);
        x.addSection(1, HIGH_CREST, 1, 1);
        x.setTide(0, Due.bits(1.9 / 900.0));
        x.setTide(1, Due.bits(-0.9 / 900.0));
        x.setTide(2, Due.bits(1.9 / 900.0));
        x.pass(1);
        Due.is("step 2: one cubic metre in", x.water(1), 1);
        x.pass(1);
        Due.is("step 2: one cubic metre out", x.water(2), 1);
        Due.is("step 2: none is left", x.water(0), 0);
        x.pass(1);
        Due.is("step 2: two in", x.water(1), 2);
        Due.is("step 2: one out", x.water(2), 1);
    }

    private static void waterOver() {
        FloodBarrier x = Due.willing();
        x.addSection(7, Due.bits(1.7), 1, 1);
        x.addSection(3, Due.bits(2.9), 1, 1);
        x.addSection(2, Due.bits(3.0), 1, 1);
        for (int hour = 3; hour < 24; hour++) {
            x.setTide(hour, Due.bits(3.0));
        }
        x.close();
        x.pass(3);
        Due.is("step 2: nothing over yet", x.water(3), 0);
        long in = x.water(1);
        x.pass(1);
        long over = (long) (7 * 450.0 * (3.0 - 1.7)) + (long) (3 * 450.0 * (3.0 - 2.9));
        Due.is("step 2: over two of them", x.water(3), over);
        Due.is("step 2: not through", x.water(1), in);
        Due.is("step 2: volume", x.water(0), over + in);
        x.pass(1);
        Due.is("step 2: whatever the inner level", x.water(3), 2 * over);
        x = Due.willing();
        x.addSection(50, Due.bits(0.0), 1, 1);
        x.addSection(50, Due.bits(0.0), 1, 1);
        x.close();
        x.pass(1);
        x.setTide(1, Due.bits(1.0));
        x.pass(1);
        Due.is("step 2: through the other one", x.water(1), 45000);
        Due.is("step 2: over the closed one, in its closing hour not", x.water(3), 22500);
    }

    private static void streamsAndPumps() {
        FloodBarrier x = new FloodBarrier();
        x.addStream(1000);
        x.addStream(234);
        x.addPump(60, 500);
        x.addPump(41, 300);
        x.addPump(40, 10000);
        x.addPump(1, 1);
        x.switchPump(0, true);
        x.switchPump(1, true);
        x.switchPump(2, true);
        x.pass(1);
        Due.is("step 3", x.water(4), 1234);
        Due.is("step 4: as many as there are", x.water(5), 1234);
        Due.is("step 4: the basin is dry", x.water(0), 0);
        Due.is("step 4: pump 0 has run", x.pump(0, 4), 1);
        Due.is("step 4: pump 1 has not", x.pump(1, 4), 0);
        Due.is("step 4: pump 2 has run", x.pump(2, 4), 1);
        Due.is("step 4: pump 3 is off", x.pump(3, 4), 0);
        Due.is("step 4: two did not run", x.count(17), 2);
        x.setStream(0, 0);
        x.setStream(1, 0);
        x.pass(2);
        Due.is("step 4: a pump that runs dry has run", x.pump(2, 4), 3);
        Due.is("step 4: dry", x.water(5), 1234);
        x.set(1, 101);
        x.switchPump(3, true);
        x.pass(1);
        Due.is("step 4: 60 and 41 are 101", x.pump(1, 4), 1);
        Due.is("step 4: no power is left", x.pump(3, 4), 0);
        Due.is("step 4: count(17)", x.count(17), 2);
        x.undo();
        Due.is("step 4: count(17) undone", x.count(17), 2);
        x.set(1, 0);
        x.pass(1);
        Due.is("step 4: no power at all", x.count(17), 4);
    }

    private static void tideOfTheDay() {
        FloodBarrier x = new FloodBarrier();
        x.setTide(23, Due.bits(4.5));
        x.setTide(0, Due.bits(-1.0));
        x.pass(23);
        Due.is("step 6: hour 23", x.level(0), 4.5);
        x.pass(1);
        Due.is("step 6: hour 24", x.level(0), -1.0);
        x.pass(47);
        Due.is("step 6: hour 71", x.level(0), 4.5);
        Due.is("step 6: count(0)", x.count(0), 71);
    }
}
