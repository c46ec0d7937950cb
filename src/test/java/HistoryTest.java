/** Promises 19 to 21: history and snapshot. */
public final class HistoryTest {
    private static final int NONE = -5;

    public static void main(String[] args) {
        promise19();
        whatIsNoState();
        promise20();
        promise21();
        numbersGivenAnew();
        everyPartOfAState();
        Due.end();
    }

    private static void promise19() {
        FloodBarrier x = new FloodBarrier();
        Due.is("19: nothing to undo", x.undo(), NONE);
        for (int i = 1; i <= 7; i++) {
            x.pass(i);
            Due.is("19: states", x.count(15), Math.min(i, 5));
        }
        int[] hours = {21, 15, 10, 6, 3};
        for (int i = 0; i < 5; i++) {
            Due.is("19: left", x.undo(), 4 - i);
            Due.is("19: the hour", x.count(0), hours[i]);
        }
        Due.is("19: the oldest ones were dropped", x.undo(), NONE);
        Due.is("19: the hour", x.count(0), 3);
        x.pass(1);
        x.pass(1);
        Due.is("19: undo, then act, then undo", x.undo(), 1);
        x.pass(10);
        Due.is("19: states", x.count(15), 2);
        x.undo();
        Due.is("19: the hour", x.count(0), 4);
        x.undo();
        Due.is("19: the hour", x.count(0), 3);
    }

    private static void whatIsNoState() {
        FloodBarrier x = new FloodBarrier();
        x.pass(2);
        x.keep();
        Due.is("19: keep is no act", x.count(15), 1);
        Due.write(x, "1.0");
        Due.is("19: typing is no act", x.count(15), 1);
        x.forecast(4);
        x.shutIn();
        Due.is("19: telling is no act", x.count(15), 1);
        x.undo();
        Due.is("19: the text is no part of a state", x.count(16), 3);
        Due.is("19: the snapshot is no part of a state", x.restore(), 2);
    }

    private static void promise20() {
        FloodBarrier x = new FloodBarrier();
        Due.is("20: hour 0", x.keep(), 0);
        x.pass(30);
        Due.is("20: hour 30", x.keep(), 30);
        Due.is("20: no act", x.count(15), 1);
        x.pass(1);
        Due.is("20: in place of the one that was", x.restore(), 30);
    }

    private static void promise21() {
        FloodBarrier x = new FloodBarrier();
        Due.is("21: no snapshot", x.restore(), NONE);
        Due.is("21: that is no act", x.count(15), 0);
        x.addStream(5);
        x.keep();
        x.pass(3);
        x.setStream(0, 6);
        Due.is("21: restored", x.restore(), 0);
        Due.is("21: an act", x.count(15), 4);
        Due.is("21: the stream as it was", x.setStream(0, 6), 5);
        Due.is("21: the snapshot stays", x.restore(), 0);
        Due.is("21: it did not change", x.setStream(0, 5), NONE);
        x.undo();
        Due.is("21: undone", x.setStream(0, 6), NONE);
        x.undo();
        x.undo();
        Due.is("21: before the first restore", x.count(0), 3);
        Due.is("21: the history is no part of a state; its oldest was dropped", x.count(15), 2);
    }

    /** A number that was given anew since the snapshot tells what it told in the snapshot. */
    private static void numbersGivenAnew() {
        FloodBarrier x = new FloodBarrier();
        x.addSection(11, Due.bits(1.0), 2, 3);
        x.addDistrict(12);
        x.addStream(13);
        x.addPump(14, 15);
        x.keep();
        for (int i = 0; i < 4; i++) {
            x.undo();
        }
        x.addSection(21, Due.bits(4.0), 5, 6);
        x.addDistrict(22);
        x.addStream(23);
        x.addPump(24, 25);
        Due.is("19: another width", x.section(0, 0), 21);
        x.restore();
        Due.is("21: width", x.section(0, 0), 11);
        Due.is("21: hours", x.section(0, 1), 2);
        Due.is("21: life", x.section(0, 2), 3);
        Due.is("21: weight", x.count(6), 12);
        Due.is("21: power", x.pump(0, 0), 14);
        Due.is("21: water of the pump", x.pump(0, 1), 15);
        Due.is("21: water of the stream", x.setStream(0, 1), 13);
        x.vote(0, true);
        x.close();
        x.pass(2);
        for (int hour = 2; hour < 5; hour++) {
            x.setTide(hour, Due.bits(3.0));
        }
        x.pass(1);
        Due.is("21: crest", x.water(3), (long) (11 * 450.0 * (3.0 - 1.0)));
    }

    /** Changes all that a state has, and looks whether restore() and undo() bring all back. */
    private static void everyPartOfAState() {
        FloodBarrier x = Due.willing();
        x.addSection(3, Due.bits(1.0), 2, 1);
        x.addStream(77);
        x.addPump(9, 8);
        x.switchPump(0, true);
        String empty = Look.state(x);
        x.keep();
        x.setTide(0, Due.bits(3.0));
        x.setTide(2, Due.bits(-0.0));
        x.setAlarm(Due.bits(-2.0));
        x.set(0, 5000);
        x.set(1, 7);
        x.setTide(3, Due.bits(2.0));
        x.close();
        x.pass(4);
        x.open();
        x.pass(3);
        x.close();
        x.pass(1);
        Due.that("water over", x.water(3) > 0);
        x.addSection(5, Due.bits(0.0), 1, 1);
        x.addDistrict(7);
        x.addStream(1);
        x.addPump(3, 4);
        x.vote(1, true);
        x.switchPump(1, true);
        x.setStream(0, 78);
        String full = Look.state(x);
        Due.that("states differ", !full.equals(empty));
        x.restore();
        Due.that("21: all is as it was kept", Look.state(x).equals(empty));
        x.undo();
        Due.that("19: all is as it was before", Look.state(x).equals(full));
        x.keep();
        x.service(0);
        x.vote(0, false);
        x.pass(5);
        x.restore();
        Due.that("21: all is as it was kept then", Look.state(x).equals(full));
    }
}
