/** Promises 1 to 10: a new object, and what there is. */
public final class WhatThereIsTest {
    private static final int UNKNOWN = -1;
    private static final int BAD = -2;
    private static final int FULL = -3;
    private static final int NONE = -5;

    private static final double ABOVE_TEN = Math.nextUp(10.0);
    private static final double BELOW_MINUS_FIVE = Math.nextDown(-5.0);

    public static void main(String[] args) {
        promise1();
        promise2();
        promise3();
        promise4();
        promise5();
        promise6();
        promise7();
        promise8();
        promise9();
        promise10();
        Due.end();
    }

    private static void promise1() {
        FloodBarrier x = new FloodBarrier();
        int[] due = {0, 0, NONE, 0, 0, 0, 0, 0, 0, 100000, 100, 0, 0, 0, 0, 0, 0, 0};
        for (int what = 0; what < due.length; what++) {
            Due.is("1: count(" + what + ")", x.count(what), due[what]);
        }
        for (int what = 0; what < 6; what++) {
            Due.is("1: water(" + what + ")", x.water(what), 0);
        }
        for (int hour = 0; hour < 24; hour++) {
            Due.is("1: tide(" + hour + ")", x.tide(hour), 0);
        }
        Due.is("1: level(0)", x.level(0), 0.0);
        Due.is("1: level(1)", x.level(1), 0.0);
        Due.is("1: level(2)", x.level(2), 2.0);
        Due.is("1: section(0, 0)", x.section(0, 0), UNKNOWN);
        Due.is("1: pump(0, 0)", x.pump(0, 0), UNKNOWN);
        Due.is("1: undo()", x.undo(), NONE);
        Due.is("1: restore()", x.restore(), NONE);
    }

    private static void promise2() {
        FloodBarrier x = new FloodBarrier();
        long crest = Due.bits(3.0);
        Due.is("2: width 0", x.addSection(0, crest, 1, 1), BAD);
        Due.is("2: width 51", x.addSection(51, crest, 1, 1), BAD);
        Due.is("2: hours 0", x.addSection(1, crest, 0, 1), BAD);
        Due.is("2: hours 7", x.addSection(1, crest, 7, 1), BAD);
        Due.is("2: life 0", x.addSection(1, crest, 1, 0), BAD);
        Due.is("2: life 21", x.addSection(1, crest, 1, 21), BAD);
        double[] bad = {-0.0, -Double.MIN_VALUE, -1.0, ABOVE_TEN, 1e300, Double.NaN,
            Double.POSITIVE_INFINITY, Double.NEGATIVE_INFINITY};
        for (double level : bad) {
            Due.is("2: crest " + level, x.addSection(1, Due.bits(level), 1, 1), BAD);
        }
        Due.is("2: crest NaN with a sign", x.addSection(1, -1L, 1, 1), BAD);
        Due.is("2: crest another NaN", x.addSection(1, 0x7ff0000000000001L, 1, 1), BAD);
        Due.is("2: errors record nothing", x.count(15), 0);
        double[] good = {0.0, Double.MIN_VALUE, 10.0, Math.nextDown(10.0), 5.5, 1e-300, 9.9, 0.1};
        for (int i = 0; i < 8; i++) {
            Due.is("2: crest " + good[i], x.addSection(i + 1, Due.bits(good[i]), 6, 20), i);
        }
        Due.is("2: a ninth", x.addSection(1, crest, 1, 1), FULL);
        Due.is("2: a ninth, width 0", x.addSection(0, crest, 1, 1), BAD);
        Due.is("2: a ninth, life 21", x.addSection(1, crest, 1, 21), BAD);
        Due.is("2: count(11)", x.count(11), 8);
        x = new FloodBarrier();
        Due.is("2: the most", x.addSection(50, Due.bits(10.0), 6, 20), 0);
        Due.is("2: width", x.section(0, 0), 50);
        Due.is("2: hours", x.section(0, 1), 6);
        Due.is("2: life", x.section(0, 2), 20);
        Due.is("2: open at first", x.section(0, 3), 0);
        Due.is("2: not moving at first", x.section(0, 4), NONE);
        Due.is("2: never closed at first", x.section(0, 5), 0);
        Due.is("2: an act", x.count(15), 1);
        Due.is("2: undone", x.undo(), 0);
        Due.is("2: gone", x.count(11), 0);
        Due.is("2: gone", x.section(0, 0), UNKNOWN);
    }

    private static void promise3() {
        FloodBarrier x = new FloodBarrier();
        Due.is("3: weight 0", x.addDistrict(0), BAD);
        Due.is("3: weight 100", x.addDistrict(100), BAD);
        Due.is("3: weight 99", x.addDistrict(99), 0);
        for (int i = 1; i < 6; i++) {
            Due.is("3: weight 1", x.addDistrict(1), i);
        }
        Due.is("3: a seventh", x.addDistrict(1), FULL);
        Due.is("3: a seventh, weight 0", x.addDistrict(0), BAD);
        Due.is("3: all weights", x.count(6), 104);
        Due.is("3: at first not for closing", x.count(5), 0);
        Due.is("3: count(12)", x.count(12), 6);
        Due.is("3: undone", x.undo(), 4);
        Due.is("3: count(12)", x.count(12), 5);
    }

    private static void promise4() {
        FloodBarrier x = new FloodBarrier();
        Due.is("4: water -1", x.addStream(-1), BAD);
        Due.is("4: water 100000", x.addStream(100000), BAD);
        Due.is("4: water 0", x.addStream(0), 0);
        Due.is("4: water 99999", x.addStream(99999), 1);
        Due.is("4: water 7", x.addStream(7), 2);
        Due.is("4: water 8", x.addStream(8), 3);
        Due.is("4: a fifth", x.addStream(9), FULL);
        Due.is("4: a fifth, water -1", x.addStream(-1), BAD);
        Due.is("4: count(13)", x.count(13), 4);
        Due.is("4: an act", x.count(15), 4);
        x.pass(1);
        Due.is("4: they bring", x.water(4), 100014);
        Due.is("4: into the basin", x.water(0), 100014);
    }

    private static void promise5() {
        FloodBarrier x = new FloodBarrier();
        Due.is("5: power 0", x.addPump(0, 1), BAD);
        Due.is("5: power 100", x.addPump(100, 1), BAD);
        Due.is("5: water 0", x.addPump(1, 0), BAD);
        Due.is("5: water 100000", x.addPump(1, 100000), BAD);
        Due.is("5: the most", x.addPump(99, 99999), 0);
        Due.is("5: power", x.pump(0, 0), 99);
        Due.is("5: water", x.pump(0, 1), 99999);
        Due.is("5: off at first", x.pump(0, 2), 0);
        Due.is("5: has not run", x.pump(0, 4), 0);
        for (int i = 1; i < 6; i++) {
            Due.is("5: the least", x.addPump(1, 1), i);
        }
        Due.is("5: a seventh", x.addPump(1, 1), FULL);
        Due.is("5: a seventh, water 0", x.addPump(1, 0), BAD);
        Due.is("5: count(14)", x.count(14), 6);
        Due.is("5: no pump ran badly yet", x.count(17), 0);
        Due.is("5: undone", x.undo(), 4);
        Due.is("5: gone", x.pump(5, 0), UNKNOWN);
    }

    private static void promise6() {
        FloodBarrier x = new FloodBarrier();
        Due.is("6: no stream", x.setStream(0, 5), UNKNOWN);
        x.addStream(10);
        Due.is("6: stream -1", x.setStream(-1, 5), UNKNOWN);
        Due.is("6: stream 1", x.setStream(1, -1), UNKNOWN);
        Due.is("6: water -1", x.setStream(0, -1), BAD);
        Due.is("6: water 100000", x.setStream(0, 100000), BAD);
        Due.is("6: so already", x.setStream(0, 10), NONE);
        Due.is("6: none of these is an act", x.count(15), 1);
        Due.is("6: 99999", x.setStream(0, 99999), 10);
        Due.is("6: 0", x.setStream(0, 0), 99999);
        Due.is("6: an act", x.count(15), 3);
        x.undo();
        x.pass(1);
        Due.is("6: it brings", x.water(4), 99999);
    }

    private static void promise7() {
        FloodBarrier x = new FloodBarrier();
        Due.is("7: no pump", x.switchPump(0, true), UNKNOWN);
        x.addPump(1, 1);
        x.addPump(2, 2);
        Due.is("7: pump -1", x.switchPump(-1, true), UNKNOWN);
        Due.is("7: pump 2", x.switchPump(2, true), UNKNOWN);
        Due.is("7: off already", x.switchPump(1, false), NONE);
        Due.is("7: on", x.switchPump(1, true), 1);
        Due.is("7: on already", x.switchPump(1, true), NONE);
        Due.is("7: both on", x.switchPump(0, true), 2);
        Due.is("7: it is on", x.pump(0, 2), 1);
        Due.is("7: off", x.switchPump(1, false), 1);
        Due.is("7: it is off", x.pump(1, 2), 0);
        Due.is("7: an act", x.count(15), 5);
        Due.is("7: undone", x.undo(), 4);
        Due.is("7: on again", x.pump(1, 2), 1);
        for (int pump = 2; pump < 6; pump++) {
            x.addPump(1, 1);
            Due.is("7: on as well", x.switchPump(pump, true), pump + 1);
        }
        Due.is("7: pump 6", x.switchPump(6, true), UNKNOWN);
    }

    private static void promise8() {
        FloodBarrier x = new FloodBarrier();
        Due.is("8: what -1", x.set(-1, 1000), BAD);
        Due.is("8: what 2", x.set(2, 100), BAD);
        Due.is("8: area 999", x.set(0, 999), BAD);
        Due.is("8: area 1000001", x.set(0, 1000001), BAD);
        Due.is("8: limit -1", x.set(1, -1), BAD);
        Due.is("8: limit 601", x.set(1, 601), BAD);
        Due.is("8: area so already", x.set(0, 100000), NONE);
        Due.is("8: limit so already", x.set(1, 100), NONE);
        Due.is("8: none of these is an act", x.count(15), 0);
        Due.is("8: area 1000", x.set(0, 1000), 100000);
        Due.is("8: area 1000000", x.set(0, 1000000), 1000);
        Due.is("8: limit 0", x.set(1, 0), 100);
        Due.is("8: limit 600", x.set(1, 600), 0);
        Due.is("8: area", x.count(9), 1000000);
        Due.is("8: limit", x.count(10), 600);
        Due.is("8: acts", x.count(15), 4);
        x.undo();
        x.undo();
        x.undo();
        Due.is("8: undone area", x.count(9), 1000);
        Due.is("8: undone limit", x.count(10), 100);
    }

    private static void promise9() {
        FloodBarrier x = new FloodBarrier();
        double[] bad = {BELOW_MINUS_FIVE, ABOVE_TEN, Double.NaN, Double.POSITIVE_INFINITY,
            Double.NEGATIVE_INFINITY, -1e300, 1e300};
        for (double level : bad) {
            Due.is("9: " + level, x.setAlarm(Due.bits(level)), BAD);
        }
        Due.is("9: NaN with a sign", x.setAlarm(-1L), BAD);
        Due.is("9: so already", x.setAlarm(Due.bits(2.0)), NONE);
        double[] good = {-5.0, 10.0, Math.nextUp(-5.0), 0.1, -0.1, Double.MIN_VALUE,
            -Double.MIN_VALUE, Double.MIN_NORMAL, -1e-310, Math.PI, -0.0};
        for (double level : good) {
            Due.is("9: " + level, x.setAlarm(Due.bits(level)), 1);
            Due.is("9: level(2)", x.level(2), level);
            Due.is("9: again " + level, x.setAlarm(Due.bits(level)), NONE);
        }
        Due.is("9: 0.0 equals -0.0", x.setAlarm(Due.bits(0.0)), NONE);
        Due.is("9: it is still -0.0", x.level(2), -0.0);
        x.setAlarm(Due.bits(1.0));
        x.setAlarm(Due.bits(0.0));
        Due.is("9: -0.0 equals 0.0", x.setAlarm(Due.bits(-0.0)), NONE);
        Due.is("9: it is still 0.0", x.level(2), 0.0);
        x.undo();
        Due.is("9: undone", x.level(2), 1.0);
    }

    private static void promise10() {
        FloodBarrier x = new FloodBarrier();
        Due.is("10: hour -1", x.setTide(-1, Due.bits(1.0)), BAD);
        Due.is("10: hour 24", x.setTide(24, Due.bits(1.0)), BAD);
        double[] bad = {BELOW_MINUS_FIVE, ABOVE_TEN, Double.NaN, Double.POSITIVE_INFINITY,
            Double.NEGATIVE_INFINITY};
        for (double level : bad) {
            Due.is("10: " + level, x.setTide(3, Due.bits(level)), BAD);
        }
        Due.is("10: -0.0 equals 0.0", x.setTide(3, Due.bits(-0.0)), NONE);
        Due.is("10: it is still 0.0", x.tide(3), 0);
        Due.is("10: none of these is an act", x.count(15), 0);
        double[] good = {-5.0, 10.0, Math.nextUp(-5.0), 0.1, -0.1, Double.MIN_VALUE, -1e-310,
            Math.E, -0.0};
        for (double level : good) {
            Due.is("10: " + level, x.setTide(0, Due.bits(level)), 1);
            Due.is("10: tide(0)", x.tide(0), Due.bits(level));
            Due.is("10: level(0)", x.level(0), level);
            Due.is("10: again " + level, x.setTide(0, Due.bits(level)), NONE);
        }
        Due.is("10: hour 23", x.setTide(23, Due.bits(4.0)), 1);
        Due.is("10: tide(23)", x.tide(23), Due.bits(4.0));
        Due.is("10: the one before", x.tide(22), 0);
        Due.is("10: an act", x.count(15), 5);
        x.undo();
        Due.is("10: undone", x.tide(23), 0);
    }
}
