/** Promises 11 to 15, sentence by sentence: majorities, nothing to close or open, worn sections. */
public final class BoundsOfOrdersTest {
    private static final int UNKNOWN = Refused.UNKNOWN;
    private static final int BAD = Refused.BAD_VALUE;
    private static final int NOT_POSSIBLE = Refused.NOT_POSSIBLE;
    private static final int NONE = Refused.NONE;

    private static final int OPEN = 0;
    private static final int CLOSING = 1;
    private static final int CLOSED = 2;
    private static final int OPENING = 3;
    private static final int JAMMED = 4;

    private static final int[] NO_SUCH = {Integer.MIN_VALUE, -1, 1000, Integer.MAX_VALUE};

    public static void main(String[] args) {
        districtThatIsNotThere();
        voteIsSoAlready();
        weightsForClosingThen();

        votesOfNoDistrict();
        exactlyHalf();
        oneMoreThanHalf();
        oneLessThanHalf();
        noVoteAndAllVotes();
        noSectionToClose();
        allAreClosedOrJammed();
        oneThatIsOpenIsEnough();
        oneThatMovesIsEnough();
        closeIsTheOrderAlready();
        votesAreAskedBeforeTheOrder();
        sectionsAreAskedBeforeTheOrder();
        closingsThatAreBegun();
        levelAtTheAlarm();
        alarmAtItsBounds();
        levelOfThatHour();

        nothingToOpen();
        howManyAreClosed();
        openWhileOneMoves();
        openIsTheOrderAlready();
        openSectionsAreAskedBeforeTheOrder();
        openNeedsNoVotes();

        sectionThatIsNotThere();
        serviceOfOneThatMoves();
        serviceOfAClosedOne();
        nothingToService();
        serviceOfAnOpenOne();
        serviceOfAJammedOne();
        servicedIsAsNew();

        hoursThatPass();
        howManyJam();
        jamsOfTheseHoursAlone();
        passIsOneAct();
        Due.end();
    }

    private static void pass(FloodBarrier x, int times) {
        for (int i = 0; i < times; i++) {
            x.pass(1);
        }
    }

    // ---- promise 11

    private static void districtThatIsNotThere() {
        Due.sentence("11: UNKNOWN, before NONE");
        for (int district : new int[] {Integer.MIN_VALUE, -1, 2, 3, 5, 6, Integer.MAX_VALUE}) {
            Refused.is("district " + district, Barriers::busy, x -> x.vote(district, true), UNKNOWN);
            Refused.is("district " + district + ", not", Barriers::busy,
                    x -> x.vote(district, false), UNKNOWN);
        }
        Refused.is("district 6 of six", Barriers::full, x -> x.vote(6, true), UNKNOWN);
        Due.is("district 5 of six", Barriers.full().vote(5, true), 15);
        Due.is("district 0 of six", Barriers.full().vote(0, true), 10);
    }

    private static void voteIsSoAlready() {
        Due.sentence("11: NONE if it is so already");
        Refused.is("for closing already", Barriers::busy, x -> x.vote(0, true), NONE);
        Refused.is("not for closing already", Barriers::busy, x -> x.vote(1, false), NONE);
        Refused.is("not for closing at first", Barriers::full, x -> x.vote(5, false), NONE);
    }

    private static void weightsForClosingThen() {
        Due.sentence("11: returns the weights for closing then");
        FloodBarrier x = new FloodBarrier();
        for (int i = 0; i < 6; i++) {
            x.addDistrict(99);
        }
        for (int i = 0; i < 6; i++) {
            Due.is("vote(" + i + ", true)", x.vote(i, true), 99 * (i + 1));
        }
        Due.is("all of them", x.count(5), 594);
        for (int i = 0; i < 6; i++) {
            Due.is("vote(" + i + ", false)", x.vote(i, false), 99 * (5 - i));
        }
        Due.is("none of them", x.count(5), 0);
    }

    // ---- promise 12

    /** One with a section, and with districts of which those of the first weights are for it. */
    private static FloodBarrier voted(int[] closing, int... others) {
        FloodBarrier x = new FloodBarrier();
        x.addSection(1, Barriers.CREST, 2, 2);
        for (int i = 0; i < closing.length; i++) {
            x.addDistrict(closing[i]);
            x.vote(i, true);
        }
        for (int weight : others) {
            x.addDistrict(weight);
        }
        return x;
    }

    private static int[] of(int... weights) {
        return weights;
    }

    private static void votesOfNoDistrict() {
        Due.sentence("Votes: (so not without districts)");
        Refused.is("no district", () -> voted(of()), x -> x.close(), NOT_POSSIBLE);
    }

    private static void exactlyHalf() {
        Due.sentence("Votes: more than half of all weights together: half is not");
        Refused.is("1 of 2", () -> voted(of(1), 1), x -> x.close(), NOT_POSSIBLE);
        Refused.is("99 of 198", () -> voted(of(99), 99), x -> x.close(), NOT_POSSIBLE);
        Refused.is("50 of 100", () -> voted(of(20, 30), 50), x -> x.close(), NOT_POSSIBLE);
        Refused.is("297 of 594", () -> voted(of(99, 99, 99), 99, 99, 99),
                x -> x.close(), NOT_POSSIBLE);
    }

    private static void oneMoreThanHalf() {
        Due.sentence("Votes: more than half of all weights together");
        Due.is("2 of 3", voted(of(2), 1).close(), 1);
        Due.is("50 of 99", voted(of(50), 49).close(), 1);
        Due.is("51 of 101", voted(of(20, 31), 50).close(), 1);
        Due.is("297 of 593", voted(of(99, 99, 99), 99, 99, 98).close(), 1);
        Due.is("51 of 100", voted(of(51), 49).close(), 1);
    }

    private static void oneLessThanHalf() {
        Due.sentence("Votes: more than half of all weights together: less is not");
        Refused.is("1 of 3", () -> voted(of(1), 2), x -> x.close(), NOT_POSSIBLE);
        Refused.is("49 of 99", () -> voted(of(49), 50), x -> x.close(), NOT_POSSIBLE);
        Refused.is("296 of 593", () -> voted(of(99, 99, 98), 99, 99, 99),
                x -> x.close(), NOT_POSSIBLE);
    }

    private static void noVoteAndAllVotes() {
        Due.sentence("Votes: none for closing, all for closing");
        Refused.is("0 of 1", () -> voted(of(), 1), x -> x.close(), NOT_POSSIBLE);
        Refused.is("0 of 594", () -> voted(of(), 99, 99, 99, 99, 99, 99),
                x -> x.close(), NOT_POSSIBLE);
        Due.is("1 of 1", voted(of(1)).close(), 1);
        Due.is("594 of 594", voted(of(99, 99, 99, 99, 99, 99)).close(), 1);
    }

    private static void noSectionToClose() {
        Due.sentence("12: NOT_POSSIBLE if there is no section that is open, closing or opening");
        Refused.is("no section", Due::willing, x -> x.close(), NOT_POSSIBLE);
    }

    private static FloodBarrier closed(int sections) {
        FloodBarrier x = Barriers.withSections(sections);
        x.close();
        pass(x, sections + 1);
        return x;
    }

    /** One with such a section of life 1 that is jammed, and others of life 20 that are closed. */
    private static FloodBarrier jammed(int others) {
        FloodBarrier x = Due.willing();
        x.addSection(1, Barriers.CREST, 1, 1);
        x.close();
        x.pass(1);
        x.open();
        x.pass(2);
        for (int i = 0; i < others; i++) {
            x.addSection(1, Barriers.CREST, 1, 20);
        }
        x.close();
        pass(x, others + 2);
        return x;
    }

    private static void allAreClosedOrJammed() {
        Due.sentence("12: NOT_POSSIBLE if all are closed or jammed");
        Refused.is("one, closed", () -> closed(1), x -> x.close(), NOT_POSSIBLE);
        Refused.is("eight, closed", () -> closed(8), x -> x.close(), NOT_POSSIBLE);
        Refused.is("one, jammed", () -> jammed(0), x -> x.close(), NOT_POSSIBLE);
        Refused.is("jammed and closed", () -> jammed(2), x -> x.close(), NOT_POSSIBLE);
        Barriers.sections(jammed(2), JAMMED, CLOSED, CLOSED);
    }

    private static void oneThatIsOpenIsEnough() {
        Due.sentence("12: a section that is open");
        FloodBarrier x = closed(7);
        x.addSection(1, Barriers.CREST, 1, 1);
        Due.is("the eighth is open", x.close(), 1);
        FloodBarrier y = jammed(1);
        Due.is("a jammed one is serviced", y.service(0), 1);
        Due.is("that one is open", y.close(), 1);
    }

    private static void oneThatMovesIsEnough() {
        Due.sentence("12: a section that is closing or opening");
        FloodBarrier x = Due.willing();
        x.addSection(1, Barriers.CREST, 2, 2);
        x.close();
        x.pass(1);
        x.open();
        Barriers.sections(x, CLOSING);
        Due.is("closing, the order is open", x.close(), 1);
        x.pass(1);
        x.open();
        x.pass(1);
        Barriers.sections(x, OPENING);
        Due.is("opening, the order is open", x.close(), 1);
    }

    private static void closeIsTheOrderAlready() {
        Due.sentence("12: NONE if this is the order already");
        Refused.is("just ordered", () -> {
            FloodBarrier x = Barriers.withSections(1);
            x.close();
            return x;
        }, x -> x.close(), NONE);
        Refused.is("one is closing", Barriers::busy, x -> x.close(), NONE);
    }

    private static void votesAreAskedBeforeTheOrder() {
        Due.sentence("12: NOT_POSSIBLE; NONE, in this order: the votes");
        Refused.is("the votes have gone", () -> {
            FloodBarrier x = Barriers.busy();
            x.vote(0, false);
            return x;
        }, x -> x.close(), NOT_POSSIBLE);
    }

    private static void sectionsAreAskedBeforeTheOrder() {
        Due.sentence("12: NOT_POSSIBLE; NONE, in this order: the sections");
        FloodBarrier y = Barriers.withSections(1);
        y.close();
        y.pass(1);
        Due.is("the order is close", y.count(1), 1);
        Refused.is("the last one has closed", () -> {
            FloodBarrier x = Barriers.withSections(1);
            x.close();
            x.pass(1);
            return x;
        }, x -> x.close(), NOT_POSSIBLE);
    }

    private static void closingsThatAreBegun() {
        Due.sentence("An hour: a closing of the barrier begins when the order becomes close");
        FloodBarrier x = Barriers.withSections(1);
        x.setAlarm(Due.bits(-5.0));
        Due.is("from rest, no drill", x.close(), 0);
        Due.is("begun", x.count(7), 1);
        Due.is("refused", x.close(), NONE);
        Due.is("still one", x.count(7), 1);
        x.pass(1);
        x.open();
        Due.is("opening is none", x.count(7), 1);
        x.pass(1);
        x.setAlarm(Due.bits(5.0));
        Due.is("from open, a drill", x.close(), 1);
        Due.is("begun", x.count(7), 2);
        Due.is("drills", x.count(8), 1);
        x.undo();
        Due.is("undone", x.count(7), 1);
        Due.is("undone", x.count(8), 0);
    }

    /** What close() answers, by the tide of this hour and the alarm. */
    private static int drill(double tide, double alarm) {
        FloodBarrier x = Barriers.withSections(1);
        x.setTide(0, Due.bits(tide));
        x.setAlarm(Due.bits(alarm));
        int answer = x.close();
        Due.is("the order is close", x.count(1), 1);
        Due.is("begun", x.count(7), 1);
        Due.is("drills", x.count(8), answer);
        return answer;
    }

    private static void levelAtTheAlarm() {
        Due.sentence("An hour: a drill if the outer level is less than the alarm");
        Due.is("at the alarm", drill(2.0, 2.0), 0);
        Due.is("just below it", drill(Math.nextDown(2.0), 2.0), 1);
        Due.is("just above it", drill(Math.nextUp(2.0), 2.0), 0);
        Due.is("both 0.0", drill(0.0, 0.0), 0);
        Due.is("-0.0 is not less than 0.0", drill(-0.0, 0.0), 0);
        Due.is("0.0 is not less than -0.0", drill(0.0, -0.0), 0);
        Due.is("the least below 0.0", drill(-Double.MIN_VALUE, 0.0), 1);
        Due.is("0.0 and the least above", drill(0.0, Double.MIN_VALUE), 1);
    }

    private static void alarmAtItsBounds() {
        Due.sentence("An hour: the alarm (a level from -5.0 to 10.0)");
        Due.is("the lowest of both", drill(-5.0, -5.0), 0);
        Due.is("the lowest tide", drill(-5.0, Math.nextUp(-5.0)), 1);
        Due.is("the highest of both", drill(10.0, 10.0), 0);
        Due.is("the highest alarm", drill(Math.nextDown(10.0), 10.0), 1);
        Due.is("the highest tide", drill(10.0, -5.0), 0);
    }

    private static void levelOfThatHour() {
        Due.sentence("An hour: the outer level of that hour, hour % 24");
        FloodBarrier x = Barriers.withSections(1);
        Barriers.setTides(x, 3.0);
        x.setTide(23, Due.bits(1.0));
        x.pass(22);
        Due.is("hour 22", x.close(), 0);
        x.undo();
        x.pass(1);
        Due.is("hour 23", x.close(), 1);
        x.undo();
        x.pass(1);
        Due.is("hour 24", x.close(), 0);
        x.undo();
        x.pass(23);
        Due.is("hour 47", x.close(), 1);
    }

    // ---- promise 13

    private static void nothingToOpen() {
        Due.sentence("13: NOT_POSSIBLE if there is no section that is closed, closing or opening");
        Refused.is("no section", FloodBarrier::new, x -> x.open(), NOT_POSSIBLE);
        Refused.is("one, open", () -> Barriers.withSections(1), x -> x.open(), NOT_POSSIBLE);
        Refused.is("eight, open", () -> Barriers.withSections(8), x -> x.open(), NOT_POSSIBLE);
        Refused.is("one, jammed", () -> jammed(0), x -> x.open(), NOT_POSSIBLE);
        Refused.is("jammed and open", () -> {
            FloodBarrier x = jammed(0);
            x.addSection(1, Barriers.CREST, 1, 1);
            return x;
        }, x -> x.open(), NOT_POSSIBLE);
        Refused.is("close is ordered, nothing moves yet", () -> {
            FloodBarrier x = Barriers.withSections(2);
            x.close();
            return x;
        }, x -> x.open(), NOT_POSSIBLE);
    }

    private static void howManyAreClosed() {
        Due.sentence("13: returns the number of sections that are closed");
        for (int many = 1; many <= 8; many++) {
            Due.is(many + " closed", closed(many).open(), many);
        }
        Due.is("one jammed, two closed", jammed(2).open(), 2);
        FloodBarrier x = Barriers.busy();
        Due.is("one closed, one closing", x.open(), 1);
        Due.is("the order is open", x.count(1), 2);
    }

    private static void openWhileOneMoves() {
        Due.sentence("13: a section that is closing or opening");
        FloodBarrier x = Due.willing();
        x.addSection(1, Barriers.CREST, 2, 2);
        x.close();
        x.pass(1);
        Barriers.sections(x, CLOSING);
        Due.is("closing, none is closed", x.open(), 0);
        x.pass(2);
        Barriers.sections(x, OPENING);
        x.close();
        Due.is("opening, none is closed", x.open(), 0);
        Due.is("the order is open", x.count(1), 2);
    }

    private static void openIsTheOrderAlready() {
        Due.sentence("13: NONE if this is the order already");
        Refused.is("just ordered", () -> {
            FloodBarrier x = closed(2);
            x.open();
            return x;
        }, x -> x.open(), NONE);
        Refused.is("one is closing", () -> {
            FloodBarrier x = Barriers.busy();
            x.open();
            return x;
        }, x -> x.open(), NONE);
    }

    private static void openSectionsAreAskedBeforeTheOrder() {
        Due.sentence("13: NOT_POSSIBLE; NONE, in this order");
        Refused.is("the last one has opened", () -> {
            FloodBarrier x = closed(1);
            x.open();
            x.pass(1);
            Due.is("the order is open", x.count(1), 2);
            return x;
        }, x -> x.open(), NOT_POSSIBLE);
    }

    private static void openNeedsNoVotes() {
        Due.sentence("13: the votes are for closing alone");
        FloodBarrier x = closed(1);
        x.vote(0, false);
        Due.is("open()", x.open(), 1);
    }

    // ---- promise 14

    private static void sectionThatIsNotThere() {
        Due.sentence("14: UNKNOWN");
        for (int section : new int[] {Integer.MIN_VALUE, -1, 4, 5, 7, 8, Integer.MAX_VALUE}) {
            Refused.is("section " + section, Barriers::busy, x -> x.service(section), UNKNOWN);
        }
        Refused.is("section 8 of eight", Barriers::full, x -> x.service(8), UNKNOWN);
        Refused.is("section 7 of eight", Barriers::full, x -> x.service(7), NONE);
    }

    private static void serviceOfOneThatMoves() {
        Due.sentence("14: NOT_POSSIBLE if it moves");
        Refused.is("closing for the first time", Barriers::busy, x -> x.service(2), NOT_POSSIBLE);
        Refused.is("opening", () -> {
            FloodBarrier x = Due.willing();
            x.addSection(1, Barriers.CREST, 2, 2);
            x.close();
            x.pass(2);
            x.open();
            x.pass(1);
            return x;
        }, x -> x.service(0), NOT_POSSIBLE);
    }

    private static void serviceOfAClosedOne() {
        Due.sentence("14: NOT_POSSIBLE if it is closed");
        Refused.is("closed", Barriers::busy, x -> x.service(1), NOT_POSSIBLE);
    }

    private static void nothingToService() {
        Due.sentence("14: NONE if it is open and has not closed since its last service");
        Refused.is("new", Barriers::busy, x -> x.service(3), NONE);
        Refused.is("serviced", () -> {
            FloodBarrier x = Barriers.busy();
            x.service(0);
            return x;
        }, x -> x.service(0), NONE);
    }

    private static void serviceOfAnOpenOne() {
        Due.sentence("14: returns how often it had closed; it has closed 0 times then");
        FloodBarrier x = closed(1);
        x.open();
        x.pass(2);
        Barriers.sections(x, OPEN);
        Due.is("it has closed", x.section(0, 5), 1);
        Due.is("service(0)", x.service(0), 1);
        Due.is("it has closed", x.section(0, 5), 0);
        Barriers.sections(x, OPEN);
        x.undo();
        Due.is("undone", x.section(0, 5), 1);
    }

    private static void serviceOfAJammedOne() {
        Due.sentence("14: a jammed one is open");
        FloodBarrier x = Barriers.busy();
        Barriers.sections(x, JAMMED, CLOSED, CLOSING, OPEN);
        Due.is("service(0)", x.service(0), 1);
        Barriers.sections(x, OPEN, CLOSED, CLOSING, OPEN);
        Due.is("it has closed", x.section(0, 5), 0);
        Due.is("no one is jammed", x.count(4), 0);
        x.undo();
        Barriers.sections(x, JAMMED, CLOSED, CLOSING, OPEN);
        Due.is("undone", x.section(0, 5), 1);
    }

    private static void servicedIsAsNew() {
        Due.sentence("Sections: how often it can close between services: 20");
        FloodBarrier x = Barriers.withSections(1);
        for (int round = 0; round < 2; round++) {
            for (int i = 1; i <= 20; i++) {
                x.close();
                Due.is("it does not jam", x.pass(1), 0);
                Due.is("it has closed", x.section(0, 5), i);
                x.open();
                x.pass(1);
                Barriers.sections(x, OPEN);
            }
            x.close();
            Due.is("it jams", x.pass(1), 1);
            Due.is("it has closed", x.section(0, 5), 20);
            Due.is("service(0)", x.service(0), 20);
        }
    }

    // ---- promise 15

    private static void hoursThatPass() {
        Due.sentence("15: hours: 1 to 48");
        for (int hours : new int[] {0, 49, 50}) {
            Refused.is(hours + " hours", Barriers::busy, x -> x.pass(hours), BAD);
        }
        for (int hours : NO_SUCH) {
            Refused.is(hours + " hours", Barriers::busy, x -> x.pass(hours), BAD);
        }
        FloodBarrier x = new FloodBarrier();
        Due.is("1 hour", x.pass(1), 0);
        Due.is("the hour", x.count(0), 1);
        Due.is("48 hours", x.pass(48), 0);
        Due.is("the hour", x.count(0), 49);
        Due.is("47 hours", x.pass(47), 0);
        Due.is("the hour", x.count(0), 96);
    }

    /** One with so many worn sections, which jam one after the other when it is closed. */
    private static FloodBarrier worn(int many) {
        FloodBarrier x = Due.willing();
        for (int i = 0; i < many; i++) {
            x.addSection(1, Barriers.CREST, 1, 1);
        }
        x.close();
        x.pass(many);
        x.open();
        x.pass(many);
        x.close();
        return x;
    }

    private static void howManyJam() {
        Due.sentence("15: returns how many sections jam in them");
        for (int many = 1; many <= 8; many++) {
            FloodBarrier x = worn(many);
            Due.is("all of " + many + " in 48 hours", x.pass(48), many);
            Due.is("jammed", x.count(4), many);
        }
        Due.is("three of eight in 3 hours", worn(8).pass(3), 3);
        Due.is("eight of eight in 8 hours", worn(8).pass(8), 8);
        Due.is("no section", Due.willing().pass(48), 0);
        FloodBarrier y = worn(1);
        y.addSection(1, Barriers.CREST, 6, 1);
        Due.is("the other one closes", y.pass(8), 1);
        Barriers.sections(y, JAMMED, CLOSED);
    }

    private static void jamsOfTheseHoursAlone() {
        Due.sentence("15: how many sections jam in them: those that are jammed already do not");
        FloodBarrier x = worn(2);
        Due.is("the first", x.pass(1), 1);
        Due.is("the second", x.pass(1), 1);
        Due.is("no more", x.pass(1), 0);
        Due.is("nor then", x.pass(48), 0);
        Due.is("jammed", x.count(4), 2);
    }

    private static void passIsOneAct() {
        Due.sentence("15: lets hours pass, one after the other; an act");
        FloodBarrier x = new FloodBarrier();
        x.pass(48);
        Due.is("states", x.count(15), 1);
        Due.is("undo()", x.undo(), 0);
        Due.is("the hour", x.count(0), 0);
        FloodBarrier whole = Barriers.busy();
        FloodBarrier parts = Barriers.busy();
        whole.pass(30);
        pass(parts, 30);
        Due.same("30 hours are 30 times one", Look.told(whole), Look.told(parts));
    }
}
