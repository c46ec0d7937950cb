/** Barriers that tests begin with, each made anew by the same calls. */
final class Barriers {
    static final long CREST = Due.bits(3.0);

    private Barriers() {
    }

    /**
     * One with something of everything: section 0 is jammed, 1 closed, 2 closing, 3 open and new;
     * the history is full, and the snapshot is none of its states.
     */
    static FloodBarrier busy() {
        FloodBarrier x = new FloodBarrier();
        x.addDistrict(10);
        x.addDistrict(9);
        x.vote(0, true);
        x.addSection(10, Due.bits(1.0), 1, 1);
        x.addSection(7, Due.bits(2.5), 1, 5);
        x.addStream(700);
        x.addStream(0);
        x.addPump(60, 500);
        x.addPump(50, 300);
        x.addPump(30, 100);
        x.switchPump(0, true);
        x.switchPump(1, true);
        x.setTide(2, Due.bits(1.5));
        x.setTide(5, Due.bits(-1.25));
        x.setTide(10, Due.bits(1.0));
        x.setTide(10, Due.bits(-0.0));
        x.close();
        x.pass(2);
        x.open();
        x.pass(2);
        x.addSection(3, Due.bits(0.5), 6, 5);
        x.addSection(2, Due.bits(4.0), 2, 2);
        x.close();
        x.pass(2);
        x.keep();
        x.pass(1);
        Due.write(x, "1.5,-0.3");
        x.setAlarm(Due.bits(1.75));
        x.set(0, 50000);
        x.set(1, 110);
        x.setTide(9, Due.bits(2.75));
        x.setStream(0, 800);
        return x;
    }

    /** One in which there is no more room for anything. */
    static FloodBarrier full() {
        FloodBarrier x = new FloodBarrier();
        for (int i = 0; i < 8; i++) {
            x.addSection(i + 1, CREST, 1, 1);
        }
        for (int i = 0; i < 6; i++) {
            x.addDistrict(i + 10);
            x.addPump(i + 20, i + 30);
        }
        for (int i = 0; i < 4; i++) {
            x.addStream(i + 40);
        }
        Due.write(x, "-1.0,1.1,1.2,1.3,1.4,1.5,1.6,1.7,1.8,1.9,2.0,2.1,2.2,2.3,2.4");
        return x;
    }

    /** One whose votes allow closing, with so many sections of one hour and a life of 20. */
    static FloodBarrier withSections(int many) {
        FloodBarrier x = Due.willing();
        for (int i = 0; i < many; i++) {
            x.addSection(1, CREST, 1, 20);
        }
        return x;
    }

    /** The same tide in all hours of the day; another one first, as -0.0 is not set for 0.0. */
    static void setTides(FloodBarrier x, double level) {
        for (int hour = 0; hour < 24; hour++) {
            x.setTide(hour, Due.bits(-3.0));
            x.setTide(hour, Due.bits(level));
        }
    }

    static void sections(FloodBarrier x, int... conditions) {
        for (int i = 0; i < conditions.length; i++) {
            Due.is("section(" + i + ", 3)", x.section(i, 3), conditions[i]);
        }
    }
}
