/**
 * Calls that return an error or NONE and so change nothing ("Terms", errors): each is asked on one
 * of two barriers that were made alike, and then all that can be seen of both must be the same.
 */
final class Refused {
    static final int UNKNOWN = -1;
    static final int BAD_VALUE = -2;
    static final int FULL = -3;
    static final int NOT_POSSIBLE = -4;
    static final int NONE = -5;

    interface Call {
        long on(FloodBarrier barrier);
    }

    private Refused() {
    }

    static void is(String name, Look.Made made, Call call, long due) {
        changesNothing(name, made, call, due);
        Due.that(name + " is an error or NONE", due < 0);
    }

    /** The same for a call that only tells, whatever it answers. */
    static void changesNothing(String name, Look.Made made, Call call, long due) {
        Look.Made asked = () -> {
            FloodBarrier barrier = made.make();
            Due.is(name, call.on(barrier), due);
            return barrier;
        };
        for (Look look : Look.values()) {
            Due.same(name + " changes nothing, " + look, look.at(asked), look.at(made));
        }
    }
}
