/** Compares answers with those that are due, and ends a test with the exit code that tells. */
final class Due {
    private static int right = 0;
    private static int wrong = 0;
    private static String sentence = "";

    private Due() {
    }

    /** Names the sentence of the document that the comparisons behind this look at. */
    static void sentence(String words) {
        sentence = words + " | ";
    }

    static void is(String call, long got, long want) {
        tell(got == want, call, String.valueOf(got), String.valueOf(want));
    }

    /** Compares the bits, so that -0.0 is not 0.0; any NaN is as good as another. */
    static void is(String call, double got, double want) {
        boolean same = Double.doubleToLongBits(got) == Double.doubleToLongBits(want);
        tell(same, call, String.valueOf(got), String.valueOf(want));
    }

    static void that(String what, boolean holds) {
        tell(holds, what, "no", "yes");
    }

    static void same(String what, String got, String want) {
        tell(got.equals(want), what, got, want);
    }

    private static void tell(boolean same, String call, String got, String want) {
        if (same) {
            right++;
            return;
        }
        wrong++;
        if (wrong <= 40) {
            System.out.println(sentence + call + " answered " + got + ", due is " + want);
        }
    }

    static void end() {
        System.out.println("        " + right + " answers are as due, " + wrong + " are not");
        if (wrong != 0 || right == 0) {
            System.exit(1);
        }
    }

    static long bits(double level) {
        return Double.doubleToRawLongBits(level);
    }

    static void write(FloodBarrier barrier, String text) {
        barrier.clearText();
        for (int i = 0; i < text.length(); i++) {
            barrier.type(text.charAt(i));
        }
    }

    /** A barrier whose one district is for closing. */
    static FloodBarrier willing() {
        FloodBarrier barrier = new FloodBarrier();
        barrier.addDistrict(1);
        barrier.vote(0, true);
        return barrier;
    }
}
