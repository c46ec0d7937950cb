/**
 * Ways to look at a barrier that show a part of it as a text. Looking may use a barrier up, so
 * each is given a way to make it; none asks more of one barrier than the document's 512 calls.
 */
enum Look {
    /** What the calls that only tell answer. */
    TOLD {
        @Override
        String at(Made made) {
            return told(made.make());
        }
    },

    /** The states of the history, from the latest one on, and that there are no more. */
    HISTORY {
        @Override
        String at(Made made) {
            StringBuilder all = new StringBuilder();
            for (int many = 1; many <= 6; many++) {
                FloodBarrier x = made.make();
                for (int i = 0; i < many; i++) {
                    all.append(x.undo()).append(' ');
                }
                all.append(told(x)).append('\n');
            }
            return all.toString();
        }
    },

    SNAPSHOT {
        @Override
        String at(Made made) {
            FloodBarrier x = made.make();
            return x.restore() + " " + told(x);
        }
    },

    TEXT {
        @Override
        String at(Made made) {
            FloodBarrier x = made.make();
            StringBuilder all = new StringBuilder();
            all.append(x.readTides(0)).append(' ').append(x.type(',')).append(' ');
            for (int hour = 0; hour < 24; hour++) {
                all.append(x.tide(hour)).append(' ');
            }
            return all.append(x.readTides(0)).append(' ').append(x.clearText()).toString();
        }
    },

    /** What no call tells: the water of streams, each weight and vote, each crest. */
    HIDDEN {
        @Override
        String at(Made made) {
            FloodBarrier x = made.make();
            StringBuilder all = new StringBuilder();
            for (int i = 0; i < 4; i++) {
                all.append(x.setStream(i, 77777)).append(' ');
            }
            for (int i = 0; i < 6; i++) {
                all.append(x.vote(i, false)).append(' ').append(x.vote(i, true)).append(' ');
            }
            Barriers.setTides(x, 10.0);
            x.addSection(1, 0L, 1, 1); // so that there is one to close
            x.close();
            for (int i = 0; i < 60; i++) {
                all.append(x.pass(1)).append(' ').append(x.water(3)).append(' ');
            }
            return all.toString();
        }
    };

    interface Made {
        FloodBarrier make();
    }

    private static final int[] HOURS = {0, 1, 2, 7, 24, 48};

    abstract String at(Made made);

    static String told(FloodBarrier x) {
        return state(x) + " history " + x.count(15) + " text " + x.count(16);
    }

    /** What is told of the state, which the history and the text are no part of. */
    static String state(FloodBarrier x) {
        StringBuilder all = new StringBuilder();
        int sections = x.count(11);
        int pumps = x.count(14);
        for (int what = 0; what < 6; what++) {
            for (int i = 0; i < sections; i++) {
                all.append(x.section(i, what)).append(' ');
            }
            for (int i = 0; i < pumps; i++) {
                all.append(x.pump(i, what)).append(' ');
            }
            all.append(x.water(what)).append(' ');
        }
        for (int what = 0; what < 18; what++) {
            all.append(what == 15 || what == 16 ? 0 : x.count(what)).append(' ');
        }
        for (int hour = 0; hour < 24; hour++) {
            all.append(x.tide(hour)).append(' ');
        }
        for (int hours : HOURS) {
            all.append(x.forecast(hours)).append(' ');
        }
        all.append(x.level(0)).append(' ').append(x.level(1)).append(' ').append(x.level(2));
        return all.append(' ').append(x.shutIn()).toString();
    }
}
