/** Promises 19 to 21, sentence by sentence: what is an act, how many states, a snapshot or none. */
public final class BoundsOfHistoryTest {
    private static final int NONE = Refused.NONE;

    public static void main(String[] args) {
        nothingToUndo();
        nothingMoreToUndo();
        howManyAreLeft();
        fiveStates();
        moreThanFiveStates();
        undoneAndActedAgain();
        theRingWrapsAround();
        undoIsNoAct();
        eachActRecordsOneState();
        whatIsNoActRecordsNone();
        whatIsRefusedRecordsNone();

        noSnapshotYet();
        theHourThatIsKept();
        inPlaceOfTheOneThatWas();
        keepIsNoAct();
        theSnapshotIsACopy();

        theHourThen();
        theSnapshotStays();
        restoreIsAnAct();
        restoreOfTheSameState();
        notPartOfAState();
        everythingElseIsPartOfAState();
        Due.end();
    }

    private static FloodBarrier passed(int times) {
        FloodBarrier x = new FloodBarrier();
        for (int i = 0; i < times; i++) {
            x.pass(1);
        }
        return x;
    }

    // ---- promise 19

    private static void nothingToUndo() {
        Due.sentence("19: NONE if the history is empty");
        Refused.is("at first", FloodBarrier::new, x -> x.undo(), NONE);
        Refused.is("behind a snapshot", () -> {
            FloodBarrier x = new FloodBarrier();
            x.keep();
            Due.write(x, "1.0");
            return x;
        }, x -> x.undo(), NONE);
    }

    private static FloodBarrier allUndone() {
        FloodBarrier x = Barriers.busy();
        for (int i = 0; i < 5; i++) {
            x.undo();
        }
        return x;
    }

    private static void nothingMoreToUndo() {
        Due.sentence("19: NONE if the history is empty, when all is undone");
        Refused.is("a sixth", BoundsOfHistoryTest::allUndone, x -> x.undo(), NONE);
        Refused.is("one of one", () -> {
            FloodBarrier x = passed(1);
            x.undo();
            return x;
        }, x -> x.undo(), NONE);
    }

    private static void howManyAreLeft() {
        Due.sentence("19: returns the number of states that are left");
        for (int acts = 1; acts <= 5; acts++) {
            FloodBarrier x = passed(acts);
            for (int left = acts - 1; left >= 0; left--) {
                Due.is("undo()", x.undo(), left);
                Due.is("count(15)", x.count(15), left);
                Due.is("the hour", x.count(0), left);
            }
            Due.is("undo()", x.undo(), NONE);
        }
    }

    private static void fiveStates() {
        Due.sentence("History: at most 5 states is kept");
        for (int acts = 0; acts <= 12; acts++) {
            Due.is(acts + " acts", passed(acts).count(15), Math.min(acts, 5));
        }
    }

    private static void moreThanFiveStates() {
        Due.sentence("History: when one more is recorded, the oldest one is dropped");
        for (int acts = 5; acts <= 16; acts++) {
            FloodBarrier x = passed(acts);
            for (int i = 1; i <= 5; i++) {
                Due.is("undo()", x.undo(), 5 - i);
                Due.is("the hour", x.count(0), acts - i);
            }
            Due.is("undo()", x.undo(), NONE);
            Due.is("the hour", x.count(0), acts - 5);
        }
    }

    private static void undoneAndActedAgain() {
        Due.sentence("19: removes and restores the latest state");
        FloodBarrier x = passed(5);
        x.undo();
        x.undo();
        x.pass(10);
        Due.is("count(15)", x.count(15), 4);
        Due.is("undo()", x.undo(), 3);
        Due.is("the hour", x.count(0), 3);
        Due.is("undo()", x.undo(), 2);
        Due.is("the hour", x.count(0), 2);
    }

    private static void theRingWrapsAround() {
        Due.sentence("History: at most 5, whatever was undone and recorded");
        FloodBarrier x = new FloodBarrier();
        int[] hours = new int[150];
        int many = 0;
        int hour = 0;
        for (int i = 0; i < 150; i++) {
            if (i % 11 < 7) {
                hours[many] = hour;
                many++;
                hour += 1 + i % 3;
                x.pass(1 + i % 3);
                if (many > 5) {
                    System.arraycopy(hours, 1, hours, 0, 5);
                    many = 5;
                }
            } else if (many > 0) {
                many--;
                hour = hours[many];
                Due.is("undo()", x.undo(), many);
            }
            Due.is("the hour", x.count(0), hour);
            Due.is("count(15)", x.count(15), many);
        }
    }

    private static void undoIsNoAct() {
        Due.sentence("19: undo is no act");
        FloodBarrier x = passed(3);
        x.undo();
        Due.is("count(15)", x.count(15), 2);
        x.undo();
        Due.is("the hour is not brought back", x.count(0), 1);
    }

    /** A barrier without a history in which each act is possible. */
    private static FloodBarrier ready() {
        FloodBarrier x = Barriers.busy();
        x.undo();
        x.undo();
        x.undo();
        x.undo();
        x.undo();
        Due.is("count(15)", x.count(15), 0);
        return x;
    }

    private static void act(String name, Refused.Call call) {
        FloodBarrier x = ready();
        String before = Look.told(x);
        long answer = call.on(x);
        Due.that(name + " is not refused: " + answer, answer >= 0);
        Due.is(name + " is one act", x.count(15), 1);
        Due.is(name + " is undone", x.undo(), 0);
        Due.same(name + ": all is as it was", Look.told(x), before);
        Look.Made undone = () -> {
            FloodBarrier y = ready();
            call.on(y);
            y.undo();
            return y;
        };
        Due.same(name + ": nor is anything hidden changed", Look.HIDDEN.at(undone),
                Look.HIDDEN.at(BoundsOfHistoryTest::ready));
    }

    private static void eachActRecordsOneState() {
        Due.sentence("History: each call of a method that is described as an act records");
        act("addSection", x -> x.addSection(1, 0L, 1, 1));
        act("addDistrict", x -> x.addDistrict(1));
        act("addStream", x -> x.addStream(0));
        act("addPump", x -> x.addPump(1, 1));
        act("setStream", x -> x.setStream(1, 7));
        act("switchPump", x -> x.switchPump(2, true));
        act("set the area", x -> x.set(0, 2000));
        act("set the limit", x -> x.set(1, 0));
        act("setAlarm", x -> x.setAlarm(Due.bits(0.5)));
        act("setTide", x -> x.setTide(0, Due.bits(0.5)));
        act("vote", x -> x.vote(1, true));
        act("open", x -> x.open());
        act("service", x -> x.service(0));
        act("pass", x -> x.pass(48));
        act("readTides", x -> x.readTides(22));
        act("restore", x -> x.restore());
        FloodBarrier y = Barriers.withSections(1);
        Due.is("count(15)", y.count(15), 3);
        y.close();
        Due.is("close is one act", y.count(15), 4);
        y.undo();
        Due.is("close is undone", y.count(1), 0);
    }

    private static void whatIsNoActRecordsNone() {
        Due.sentence("History: a method that is not described as an act records nothing");
        FloodBarrier x = ready();
        x.keep();
        x.clearText();
        x.type('1');
        x.undo();
        for (int i = -1; i < 25; i++) {
            x.section(1, i);
            x.pump(1, i);
            x.level(i);
            x.water(i);
            x.forecast(i);
            x.tide(i);
            x.count(i);
        }
        x.shutIn();
        Due.is("count(15)", x.count(15), 0);
    }

    private static void whatIsRefusedRecordsNone() {
        Due.sentence("History: and returns no error and not NONE");
        FloodBarrier x = ready();
        x.addSection(0, 0L, 1, 1);
        x.addDistrict(0);
        x.addStream(-1);
        x.addPump(0, 1);
        x.setStream(9, 7);
        x.setStream(1, 0);
        x.switchPump(9, true);
        x.switchPump(0, true);
        x.set(2, 2000);
        x.set(0, 100000);
        x.setAlarm(-1L);
        x.setAlarm(Due.bits(2.0));
        x.setTide(24, 0L);
        x.setTide(0, 0L);
        x.vote(9, true);
        x.vote(0, true);
        x.close();
        x.service(9);
        x.service(1);
        x.service(3);
        x.pass(0);
        x.readTides(24);
        x.readTides(23);
        Due.is("count(15)", x.count(15), 0);
    }

    // ---- promise 20

    private static void noSnapshotYet() {
        Due.sentence("21: NONE if there is no snapshot");
        Refused.is("at first", FloodBarrier::new, x -> x.restore(), NONE);
        Refused.is("with a history", () -> passed(7), x -> x.restore(), NONE);
    }

    private static void theHourThatIsKept() {
        Due.sentence("20: returns the hour");
        FloodBarrier x = new FloodBarrier();
        Due.is("at hour 0", x.keep(), 0);
        x.pass(48);
        Due.is("at hour 48", x.keep(), 48);
        x.pass(1);
        Due.is("at hour 49", x.keep(), 49);
        Due.is("at hour 49 again", x.keep(), 49);
    }

    private static void inPlaceOfTheOneThatWas() {
        Due.sentence("20: in place of the one that was");
        FloodBarrier x = new FloodBarrier();
        x.addStream(5);
        x.keep();
        x.pass(2);
        x.setStream(0, 6);
        x.keep();
        x.pass(2);
        x.setStream(0, 7);
        Due.is("restore()", x.restore(), 2);
        Due.is("the stream", x.setStream(0, 5), 6);
    }

    private static void keepIsNoAct() {
        Due.sentence("20: keep is no act");
        FloodBarrier x = passed(2);
        x.keep();
        Due.is("count(15)", x.count(15), 2);
        Due.is("undo()", x.undo(), 1);
        Due.is("the snapshot is still there", x.restore(), 2);
        FloodBarrier y = Barriers.full();
        String before = Look.told(y);
        y.keep();
        Due.same("it changes nothing else", Look.told(y), before);
    }

    private static void theSnapshotIsACopy() {
        Due.sentence("20: takes a snapshot of the state");
        FloodBarrier x = Barriers.busy();
        String before = Look.state(x);
        x.keep();
        x.undo();
        x.addSection(9, 0L, 1, 1);
        x.vote(1, true);
        x.pass(20);
        x.restore();
        Due.same("all is as it was kept", Look.state(x), before);
    }

    // ---- promise 21

    private static void theHourThen() {
        Due.sentence("21: returns the hour then");
        FloodBarrier x = passed(3);
        x.keep();
        x.pass(48);
        Due.is("back to hour 3", x.restore(), 3);
        Due.is("count(0)", x.count(0), 3);
        FloodBarrier y = new FloodBarrier();
        y.keep();
        y.pass(9);
        Due.is("back to hour 0", y.restore(), 0);
    }

    private static void theSnapshotStays() {
        Due.sentence("21: restores the state of the snapshot, which stays");
        FloodBarrier x = Barriers.busy();
        x.restore();
        String restored = Look.state(x);
        x.pass(10);
        x.setStream(0, 3);
        x.restore();
        Due.same("once more", Look.state(x), restored);
        x.undo();
        x.undo();
        x.restore();
        Due.same("and behind undo()", Look.state(x), restored);
    }

    private static void restoreIsAnAct() {
        Due.sentence("21: restore is an act");
        FloodBarrier x = passed(1);
        x.keep();
        x.pass(5);
        x.restore();
        Due.is("count(15)", x.count(15), 3);
        Due.is("undo()", x.undo(), 2);
        Due.is("the hour before", x.count(0), 6);
    }

    private static void restoreOfTheSameState() {
        Due.sentence("21: NONE if there is no snapshot, and only then");
        FloodBarrier x = new FloodBarrier();
        x.keep();
        Due.is("nothing has changed since", x.restore(), 0);
        Due.is("an act all the same", x.count(15), 1);
        Due.is("once more", x.restore(), 0);
        Due.is("count(15)", x.count(15), 2);
    }

    private static void notPartOfAState() {
        Due.sentence("History: a state is everything but the text, the history and the snapshot");
        FloodBarrier x = new FloodBarrier();
        Due.write(x, "1.0");
        x.keep();
        x.pass(1);
        x.type(',');
        x.restore();
        Due.is("restore leaves the text", x.count(16), 4);
        Due.is("restore leaves the history", x.count(15), 2);
        x.clearText();
        x.undo();
        Due.is("undo leaves the text", x.count(16), 0);
        Due.is("undo leaves the snapshot", x.restore(), 0);
    }

    private static void everythingElseIsPartOfAState() {
        Due.sentence("History: a state is everything but ..");
        FloodBarrier x = Barriers.busy();
        x.keep();
        String kept = Look.state(x);
        x.pass(40);
        String later = Look.state(x);
        Due.that("forty hours change what is told", !later.equals(kept));
        x.restore();
        Due.same("restore", Look.state(x), kept);
        x.undo();
        Due.same("undo of restore", Look.state(x), later);
    }
}
