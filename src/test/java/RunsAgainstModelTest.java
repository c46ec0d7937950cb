import java.util.Random;

/** Runs of calls, chosen by a fixed seed, each answered by the program and by the model. */
public final class RunsAgainstModelTest {
    private static final int RUNS = 20000;
    /** With those of compareAll() they are fewer than 512, behind which nothing is promised. */
    private static final int MOST_CALLS = 240;
    private static final String SIGNS = "0123456789.,-";

    private static final double[] LEVELS = {-5.0, -4.9, -1.3, -0.0, 0.0, 0.1, 0.7, 1.0, 1.999, 2.0,
        2.5, 3.3, 4.0, 5.0, 7.1, 9.9, 10.0, Double.MIN_VALUE, -Double.MIN_VALUE,
        Double.MIN_NORMAL, 1e-300, -3e-310, 1e-17};
    private static final double[] BAD_LEVELS = {-5.000000000000001, 10.000000000000002, Double.NaN,
        Double.POSITIVE_INFINITY, Double.NEGATIVE_INFINITY, 1e300, -1e300, -6.0, 11.0};
    private static final int[] ODD = {Integer.MIN_VALUE, -1000, -2, -1, 0, 1, 2, 3, 5, 6, 7, 8, 9,
        17, 18, 19, 20, 21, 23, 24, 47, 48, 49, 50, 51, 98, 99, 100, 599, 600, 601, 999, 1000,
        99999, 100000, 1000000, 1000001, Integer.MAX_VALUE};

    private final Random random;
    private final FloodBarrier program = new FloodBarrier();
    private final Model model = new Model();
    private final int run;
    private int calls = 0;

    private RunsAgainstModelTest(int run) {
        this.run = run;
        random = new Random(77L * run + 5);
    }

    public static void main(String[] args) {
        for (int run = 0; run < RUNS; run++) {
            RunsAgainstModelTest test = new RunsAgainstModelTest(run);
            if (run % 3 != 0) {
                test.build();
            }
            int most = MOST_CALLS - test.random.nextInt(MOST_CALLS / 2);
            while (test.calls < most) {
                test.call(test.random.nextInt(38));
            }
            test.compareAll();
        }
        Due.end();
    }

    /** A barrier that can close, so that a run does not waste its calls on making one. */
    private void build() {
        for (int i = random.nextInt(4); i >= 0; i--) {
            call(0);
        }
        call(1);
        call(1);
        int districts = model.state.districts.size();
        for (int i = 0; i < districts; i++) {
            is("vote", program.vote(i, true), model.vote(i, true));
        }
        for (int i = 0; i < 8; i++) {
            call(8);
        }
        call(3);
        call(2);
    }

    private int odd() {
        return ODD[random.nextInt(ODD.length)];
    }

    private int number(int least, int most) {
        return random.nextInt(12) == 0 ? odd() : least + random.nextInt(most - least + 1);
    }

    private long levelBits() {
        switch (random.nextInt(10)) {
            case 0:
                return Due.bits(BAD_LEVELS[random.nextInt(BAD_LEVELS.length)]);
            case 1:
                return random.nextLong();
            case 2:
            case 3:
                return Due.bits(random.nextDouble() * 15.0 - 5.0);
            default:
                return Due.bits(LEVELS[random.nextInt(LEVELS.length)]);
        }
    }

    private void is(String call, long got, long want) {
        calls++;
        Due.is("run " + run + ": " + call, got, want);
    }

    private void is(String call, double got, double want) {
        calls++;
        Due.is("run " + run + ": " + call, got, want);
    }

    private void call(int which) {
        if (which < 11) {
            callWhatThereIs(which);
        } else if (which < 24) {
            callOrders(which);
        } else {
            callTextsAndHistory(which);
        }
    }

    private void callWhatThereIs(int which) {
        int a = number(1, 50);
        int b = number(1, 6);
        int c = number(1, 3);
        long bits = levelBits();
        boolean yes = random.nextInt(4) != 0;
        switch (which) {
            case 0:
                is("addSection", program.addSection(a, bits, b, c), model.addSection(a, bits, b, c));
                break;
            case 1:
                is("addDistrict", program.addDistrict(a), model.addDistrict(a));
                break;
            case 2:
                a = number(0, 99999);
                is("addStream", program.addStream(a), model.addStream(a));
                break;
            case 3:
                b = number(1, 99999);
                is("addPump", program.addPump(a, b), model.addPump(a, b));
                break;
            case 4:
                a = number(0, 3);
                b = number(0, 99999);
                is("setStream", program.setStream(a, b), model.setStream(a, b));
                break;
            case 5:
            case 6:
                a = number(0, 5);
                is("switchPump", program.switchPump(a, yes), model.switchPump(a, yes));
                break;
            case 7:
                a = number(0, 1);
                b = a == 0 ? number(1000, 1000000) : number(0, 250);
                is("set", program.set(a, b), model.set(a, b));
                break;
            case 8:
            case 9:
                a = number(0, 23);
                is("setTide", program.setTide(a, bits), model.setTide(a, bits));
                break;
            default:
                is("setAlarm", program.setAlarm(bits), model.setAlarm(bits));
                break;
        }
    }

    private void callOrders(int which) {
        int a = number(0, 5);
        boolean yes = random.nextInt(5) != 0;
        switch (which) {
            case 11:
                is("vote", program.vote(a, yes), model.vote(a, yes));
                break;
            case 12:
            case 13:
            case 14:
                is("close", program.close(), model.close());
                break;
            case 15:
            case 16:
                is("open", program.open(), model.open());
                break;
            case 17:
                is("service", program.service(a), model.service(a));
                break;
            case 18:
                a = number(1, 48);
                is("pass", program.pass(a), model.pass(a));
                break;
            default:
                a = number(1, 4);
                is("pass", program.pass(a), model.pass(a));
                break;
        }
    }

    private void callTextsAndHistory(int which) {
        switch (which) {
            case 24:
            case 25:
                typeSome();
                break;
            case 26:
                is("clearText", program.clearText(), model.clearText());
                break;
            case 27:
            case 28:
                int hour = number(0, 23);
                is("readTides", program.readTides(hour), model.readTides(hour));
                break;
            case 29:
            case 30:
                is("undo", program.undo(), model.undo());
                break;
            case 31:
                is("keep", program.keep(), model.keep());
                break;
            case 32:
                is("restore", program.restore(), model.restore());
                break;
            case 33:
                is("shutIn", program.shutIn(), model.shutIn());
                break;
            case 34:
                int hours = number(0, 48);
                is("forecast", program.forecast(hours), model.forecast(hours));
                break;
            default:
                told();
                break;
        }
    }

    private void typeSome() {
        if (random.nextInt(6) == 0) {
            char any = (char) (random.nextBoolean() ? random.nextInt(65536)
                    : SIGNS.charAt(random.nextInt(SIGNS.length())));
            is("type", program.type(any), model.type(any));
            return;
        }
        StringBuilder level = new StringBuilder();
        if (model.text.length() > 0) {
            level.append(',');
        }
        if (random.nextInt(4) == 0) {
            level.append('-').append(random.nextInt(6));
        } else {
            level.append(random.nextInt(10));
        }
        level.append('.').append(random.nextInt(10));
        for (int i = 0; i < level.length(); i++) {
            char character = level.charAt(i);
            is("type", program.type(character), model.type(character));
        }
    }

    private void told() {
        int a = number(0, 7);
        int b = number(0, 5);
        is("section", program.section(a, b), model.section(a, b));
        is("pump", program.pump(a, b), model.pump(a, b));
        is("level", program.level(b), model.level(b));
        is("water", program.water(b), model.water(b));
        is("tide", program.tide(a), model.tide(a));
        is("count", program.count(a), model.count(a));
    }

    private void compareAll() {
        for (int i = -1; i < 9; i++) {
            for (int what = -1; what < 7; what++) {
                is("section", program.section(i, what), model.section(i, what));
                is("pump", program.pump(i, what), model.pump(i, what));
            }
        }
        for (int what = -1; what < 25; what++) {
            is("level", program.level(what), model.level(what));
            is("water", program.water(what), model.water(what));
            is("tide", program.tide(what), model.tide(what));
            is("count(" + what + ")", program.count(what), model.count(what));
        }
        is("shutIn", program.shutIn(), model.shutIn());
        is("forecast", program.forecast(48), model.forecast(48));
    }
}
