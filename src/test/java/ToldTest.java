/** Promises 22 to 29: what is told. */
public final class ToldTest {
    private static final int UNKNOWN = -1;
    private static final int BAD = -2;
    private static final int NOT_POSSIBLE = -4;
    private static final int NONE = -5;

    private static final int[] OUT_OF_RANGE = {Integer.MIN_VALUE, -1, 1000, Integer.MAX_VALUE};

    public static void main(String[] args) {
        promise22();
        promise23();
        promise24();
        promise25();
        promise26();
        promise27();
        promise28();
        promise29();
        Due.end();
    }

    private static void promise22() {
        FloodBarrier x = Due.willing();
        x.addSection(11, Due.bits(1.0), 4, 13);
        x.addSection(12, Due.bits(1.0), 1, 1);
        int[] due = {11, 4, 13, 0, NONE, 0, BAD};
        for (int what = 0; what < due.length; what++) {
            Due.is("22: section(0, " + what + ")", x.section(0, what), due[what]);
        }
        Due.is("22: section(1, 0)", x.section(1, 0), 12);
        Due.is("22: section(2, 0)", x.section(2, 0), UNKNOWN);
        Due.is("22: section(-1, 9)", x.section(-1, 9), UNKNOWN);
        Due.is("22: section(8, 0)", x.section(8, 0), UNKNOWN);
        for (int what : OUT_OF_RANGE) {
            Due.is("22: section(0, " + what + ")", x.section(0, what), BAD);
            Due.is("22: section(" + what + ", 0)", x.section(what, 0), UNKNOWN);
        }
        x.close();
        for (int left = 3; left > 0; left--) {
            x.pass(1);
            Due.is("22: closing", x.section(0, 3), 1);
            Due.is("22: left", x.section(0, 4), left);
            Due.is("22: the other", x.section(1, 4), NONE);
        }
        Due.is("22: not closed yet", x.section(0, 5), 0);
        x.pass(1);
        Due.is("22: closed", x.section(0, 3), 2);
        Due.is("22: none left", x.section(0, 4), NONE);
        Due.is("22: closed once", x.section(0, 5), 1);
        x.open();
        x.pass(1);
        Due.is("22: opening", x.section(0, 3), 3);
        Due.is("22: left", x.section(0, 4), 3);
        x.pass(3);
        Due.is("22: open", x.section(0, 3), 0);
    }

    private static void promise23() {
        FloodBarrier x = new FloodBarrier();
        x.addPump(70, 11);
        x.addPump(40, 22);
        x.addPump(30, 33);
        for (int pump = 0; pump < 3; pump++) {
            Due.is("23: off ones would not run", x.pump(pump, 3), 0);
            x.switchPump(pump, true);
        }
        int[][] due = {{70, 11, 1, 1, 0, BAD}, {40, 22, 1, 0, 0, BAD}, {30, 33, 1, 1, 0, BAD}};
        for (int pump = 0; pump < 3; pump++) {
            for (int what = 0; what < 6; what++) {
                Due.is("23: pump(" + pump + ", " + what + ")", x.pump(pump, what), due[pump][what]);
            }
        }
        Due.is("23: pump(3, 0)", x.pump(3, 0), UNKNOWN);
        Due.is("23: pump(-1, 9)", x.pump(-1, 9), UNKNOWN);
        for (int what : OUT_OF_RANGE) {
            Due.is("23: pump(0, " + what + ")", x.pump(0, what), BAD);
            Due.is("23: pump(" + what + ", 0)", x.pump(what, 0), UNKNOWN);
        }
        x.pass(7);
        Due.is("23: has run", x.pump(0, 4), 7);
        Due.is("23: has not", x.pump(1, 4), 0);
        x.switchPump(0, false);
        Due.is("23: now it would", x.pump(1, 3), 1);
        Due.is("23: it would not", x.pump(0, 3), 0);
        x.pass(1);
        Due.is("23: it did", x.pump(1, 4), 1);
        Due.is("23: it did not", x.pump(0, 4), 7);
    }

    private static void promise24() {
        FloodBarrier x = new FloodBarrier();
        x.setTide(0, Due.bits(0.3));
        x.setTide(1, Due.bits(-0.7));
        x.setAlarm(Due.bits(1.1));
        x.addStream(12345);
        Due.is("24: outer", x.level(0), 0.3);
        Due.is("24: inner", x.level(1), 0.0);
        Due.is("24: alarm", x.level(2), 1.1);
        x.pass(1);
        Due.is("24: outer then", x.level(0), -0.7);
        Due.is("24: inner then", x.level(1), 12345.0 / 100000.0);
        x.set(0, 7777);
        Due.is("24: inner by the area", x.level(1), 12345.0 / 7777.0);
        Due.is("24: level(3)", x.level(3), Double.NaN);
        for (int what : OUT_OF_RANGE) {
            Due.is("24: level(" + what + ")", x.level(what), Double.NaN);
        }
    }

    private static void promise25() {
        FloodBarrier x = Due.willing();
        x.addSection(1, Due.bits(0.5), 1, 9);
        x.setTide(0, Due.bits(1.0));
        x.setTide(1, Due.bits(1.0));
        x.setTide(2, Due.bits(-1.0));
        x.addStream(1000);
        x.addPump(1, 10);
        x.switchPump(0, true);
        x.close();
        x.pass(1);
        long[] first = {900 + 1000 - 10, 900, 0, 0, 1000, 10, BAD};
        for (int what = 0; what < first.length; what++) {
            Due.is("25: water(" + what + ")", x.water(what), first[what]);
        }
        x.pass(1);
        long[] then = {1890 + 225 + 1000 - 10, 900, 0, 225, 2000, 20, BAD};
        for (int what = 0; what < then.length; what++) {
            Due.is("25: water(" + what + ") then", x.water(what), then[what]);
        }
        x.open();
        x.pass(1);
        long out = -(long) (900.0 * (-1.0 - (double) 3105 / 100000));
        Due.is("25: flowed out", x.water(2), out);
        long sum = x.water(1) - x.water(2) + x.water(3) + x.water(4) - x.water(5);
        Due.is("25: the account", x.water(0), sum);
        for (int what : OUT_OF_RANGE) {
            Due.is("25: water(" + what + ")", x.water(what), BAD);
        }
    }

    private static void promise26() {
        FloodBarrier x = Due.willing();
        Due.is("26: -1", x.forecast(-1), Double.NaN);
        Due.is("26: 49", x.forecast(49), Double.NaN);
        x.addSection(20, Due.bits(2.0), 2, 1);
        x.addStream(4321);
        x.addPump(5, 600);
        x.switchPump(0, true);
        for (int hour = 0; hour < 24; hour++) {
            x.setTide(hour, Due.bits(hour % 12 * 0.4 - 1.3));
        }
        x.close();
        x.pass(5);
        Due.is("26: 0 hours", x.forecast(0), x.level(1));
        double[] forecasts = new double[49];
        for (int hours = 0; hours <= 48; hours++) {
            forecasts[hours] = x.forecast(hours);
        }
        Due.is("26: no hour has passed", x.count(0), 5);
        Due.is("26: no act", x.count(15), 5);
        for (int hours = 1; hours <= 48; hours++) {
            x.pass(1);
            Due.is("26: after " + hours, x.level(1), forecasts[hours]);
        }
    }

    private static void promise27() {
        FloodBarrier x = Due.willing();
        Due.is("27: no section", x.shutIn(), 0);
        for (int i = 0; i < 8; i++) {
            x.addSection(1, Due.bits(1.0), 6, 1);
        }
        Due.is("27: no order", x.shutIn(), NONE);
        x.close();
        Due.is("27: eight by six hours", x.shutIn(), 48);
        Due.is("27: nothing has passed", x.count(0), 0);
        x.pass(47);
        Due.is("27: one more", x.shutIn(), 1);
        x.pass(1);
        Due.is("27: now", x.shutIn(), 0);
        x.open();
        Due.is("27: so it is now", x.shutIn(), 0);
        x.pass(1);
        Due.is("27: opening", x.shutIn(), NONE);
        x.close();
        Due.is("27: that one jams", x.shutIn(), 6);
        x.pass(6);
        Due.is("27: jammed", x.count(4), 1);
        Due.is("27: jammed and closed", x.shutIn(), 0);
        x = Due.willing();
        for (int i = 0; i < 8; i++) {
            x.addSection(1, Due.bits(1.0), 6, 2);
        }
        x.close();
        x.pass(1);
        x.open();
        x.pass(6);
        Due.is("27: opening first", x.section(0, 3), 3);
        x.close();
        Due.is("27: more than 48", x.shutIn(), NONE);
        x.pass(5);
        Due.is("27: open again", x.section(0, 3), 0);
        Due.is("27: 48 again", x.shutIn(), 48);
    }

    private static void promise28() {
        FloodBarrier x = new FloodBarrier();
        for (int hour = 0; hour < 24; hour++) {
            x.setTide(hour, Due.bits(hour / 7.0 - 1.0));
        }
        for (int hour = 0; hour < 24; hour++) {
            Due.is("28: tide(" + hour + ")", x.tide(hour), Due.bits(hour / 7.0 - 1.0));
        }
        Due.is("28: tide(24)", x.tide(24), BAD);
        for (int hour : OUT_OF_RANGE) {
            Due.is("28: tide(" + hour + ")", x.tide(hour), BAD);
        }
    }

    private static void promise29() {
        FloodBarrier x = new FloodBarrier();
        x.addDistrict(30);
        x.addDistrict(20);
        x.addDistrict(5);
        x.vote(0, true);
        x.addStream(1);
        x.addStream(2);
        x.addPump(1, 1);
        x.addPump(1, 1);
        x.addPump(1, 1);
        x.addPump(1, 1);
        x.switchPump(2, true);
        x.set(0, 1234);
        x.set(1, 56);
        for (int i = 0; i < 5; i++) {
            x.addSection(1, Due.bits(1.0), 1, 1);
        }
        Due.write(x, "12345678");
        x.close();
        x.pass(5);
        x.open();
        x.pass(5);
        x.setAlarm(Due.bits(-5.0));
        x.close();
        x.pass(2);
        x.service(1);
        int[] due = {12, 1, NONE, 0, 1, 30, 55, 2, 1, 1234, 56, 5, 3, 2, 4, 5, 8, 3, BAD};
        for (int what = 0; what < due.length; what++) {
            Due.is("29: count(" + what + ")", x.count(what), due[what]);
        }
        x.pass(1);
        Due.is("29: closed", x.count(3), 1);
        x.open();
        Due.is("29: the order", x.count(1), 2);
        for (int what : OUT_OF_RANGE) {
            Due.is("29: count(" + what + ")", x.count(what), BAD);
        }
        x = Due.willing();
        x.addSection(1, 0L, 1, 1);
        x.addSection(1, 0L, 2, 1);
        x.close();
        x.pass(2);
        Due.is("29: the section that moves", x.count(2), 1);
        Due.is("29: closed", x.count(3), 1);
        Due.is("29: a drill", x.count(8), 1);
        Due.is("service of a moving one", x.service(1), NOT_POSSIBLE);
    }
}
