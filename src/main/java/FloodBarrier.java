/**
 * A flood barrier, hour by hour. What each call does and answers is promised in the project's
 * document; README.md tells how to use the class.
 */
public final class FloodBarrier {
    public static final int UNKNOWN = -1;
    public static final int BAD_VALUE = -2;
    public static final int FULL = -3;
    public static final int NOT_POSSIBLE = -4;
    public static final int NONE = -5;

    private static final int HOURS_OF_DAY = 24;
    private static final int MOST_HOURS_AHEAD = 48;
    private static final int FAULT_BASE = -100;

    private static final int REST = 0;
    private static final int TO_CLOSE = 1;
    private static final int TO_OPEN = 2;

    private final State now;
    /** Forecasts run in this one state again and again, so that they make no objects. */
    private final State trial;
    private final History history;
    private final TideText text;
    /** Null until the first keep(). */
    private State snapshot;

    public FloodBarrier() {
        now = new State();
        trial = new State();
        history = new History();
        text = new TideText();
    }

    // ---- what there is

    public int addSection(int width, long crest, int hours, int life) {
        if (isOutside(width, 1, 50) || !Levels.isCrest(crest)
                || isOutside(hours, 1, 6) || isOutside(life, 1, 20)) {
            return BAD_VALUE;
        }
        if (now.sections.isFull()) {
            return FULL;
        }
        history.record(now);
        return now.sections.add(width, Levels.ofBits(crest), hours, life);
    }

    public int addDistrict(int weight) {
        if (isOutside(weight, 1, 99)) {
            return BAD_VALUE;
        }
        if (now.districts.isFull()) {
            return FULL;
        }
        history.record(now);
        return now.districts.add(weight);
    }

    public int addStream(int water) {
        if (isOutside(water, 0, 99999)) {
            return BAD_VALUE;
        }
        if (now.streams.isFull()) {
            return FULL;
        }
        history.record(now);
        return now.streams.add(water);
    }

    public int addPump(int power, int water) {
        if (isOutside(power, 1, 99) || isOutside(water, 1, 99999)) {
            return BAD_VALUE;
        }
        if (now.pumps.isFull()) {
            return FULL;
        }
        history.record(now);
        return now.pumps.add(power, water);
    }

    public int setStream(int stream, int water) {
        if (!now.streams.has(stream)) {
            return UNKNOWN;
        }
        if (isOutside(water, 0, 99999)) {
            return BAD_VALUE;
        }
        int before = now.streams.water[stream];
        if (before == water) {
            return NONE;
        }
        history.record(now);
        now.streams.water[stream] = water;
        return before;
    }

    public int switchPump(int pump, boolean on) {
        if (!now.pumps.has(pump)) {
            return UNKNOWN;
        }
        if (now.pumps.on[pump] == on) {
            return NONE;
        }
        history.record(now);
        now.pumps.on[pump] = on;
        return now.pumps.countOn();
    }

    public int set(int what, int value) {
        switch (what) {
            case 0:
                return setArea(value);
            case 1:
                return setLimit(value);
            default:
                return BAD_VALUE;
        }
    }

    private int setArea(int area) {
        if (isOutside(area, 1000, 1000000)) {
            return BAD_VALUE;
        }
        int before = now.basin.area;
        if (before == area) {
            return NONE;
        }
        history.record(now);
        now.basin.area = area;
        return before;
    }

    private int setLimit(int limit) {
        if (isOutside(limit, 0, 600)) {
            return BAD_VALUE;
        }
        int before = now.pumps.limit;
        if (before == limit) {
            return NONE;
        }
        history.record(now);
        now.pumps.limit = limit;
        return before;
    }

    public int setAlarm(long bits) {
        if (!Levels.isLevel(bits)) {
            return BAD_VALUE;
        }
        if (Levels.isSame(bits, now.alarm)) {
            return NONE;
        }
        history.record(now);
        now.alarm = bits;
        return 1;
    }

    public int setTide(int hour, long bits) {
        if (!isHourOfDay(hour) || !Levels.isLevel(bits)) {
            return BAD_VALUE;
        }
        if (Levels.isSame(bits, now.tides[hour])) {
            return NONE;
        }
        history.record(now);
        now.tides[hour] = bits;
        return 1;
    }

    // ---- orders

    public int vote(int district, boolean closing) {
        if (!now.districts.has(district)) {
            return UNKNOWN;
        }
        if (now.districts.closing[district] == closing) {
            return NONE;
        }
        history.record(now);
        now.districts.closing[district] = closing;
        return now.districts.weightForClosing();
    }

    public int close() {
        if (!now.districts.allowClosing() || now.sections.areAllShut()) {
            return NOT_POSSIBLE;
        }
        if (now.order == TO_CLOSE) {
            return NONE;
        }
        history.record(now);
        return now.beginClosing() ? 1 : 0;
    }

    public int open() {
        int closed = now.sections.countIn(Sections.CLOSED);
        if (closed == 0 && now.sections.moving() == NONE) {
            return NOT_POSSIBLE;
        }
        if (now.order == TO_OPEN) {
            return NONE;
        }
        history.record(now);
        now.order = TO_OPEN;
        return closed;
    }

    public int service(int section) {
        if (!now.sections.has(section)) {
            return UNKNOWN;
        }
        if (now.sections.isMoving(section) || now.sections.isClosed(section)) {
            return NOT_POSSIBLE;
        }
        int before = now.sections.closings[section];
        if (now.sections.condition[section] == Sections.OPEN && before == 0) {
            return NONE;
        }
        history.record(now);
        now.sections.renew(section);
        return before;
    }

    public int pass(int hours) {
        if (isOutside(hours, 1, MOST_HOURS_AHEAD)) {
            return BAD_VALUE;
        }
        history.record(now);
        return now.passHours(hours);
    }

    // ---- texts

    public int type(char character) {
        if (text.isFull()) {
            return FULL;
        }
        return text.append(character);
    }

    public int clearText() {
        return text.empty();
    }

    public int readTides(int hour) {
        if (!isHourOfDay(hour)) {
            return BAD_VALUE;
        }
        int fault = text.fault();
        if (fault != NONE) {
            return FAULT_BASE - fault;
        }
        int many = text.readTenths();
        if (hour + many > HOURS_OF_DAY) {
            return FULL;
        }
        if (text.lowestTenths() < Levels.LOWEST_TENTHS) {
            return NOT_POSSIBLE;
        }
        history.record(now);
        for (int i = 0; i < many && hour + i < HOURS_OF_DAY; i++) {
            now.tides[hour + i] = Levels.bitsOfTenths(text.tenths[i]);
        }
        return many;
    }

    // ---- history

    public int undo() {
        if (!history.takeLatest(now)) {
            return NONE;
        }
        return history.many;
    }

    public int keep() {
        if (snapshot == null) {
            snapshot = new State();
        }
        snapshot.copyFrom(now);
        return now.hour;
    }

    public int restore() {
        if (snapshot == null) {
            return NONE;
        }
        history.record(now);
        now.copyFrom(snapshot);
        return now.hour;
    }

    // ---- what is told

    public int section(int section, int what) {
        if (!now.sections.has(section)) {
            return UNKNOWN;
        }
        switch (what) {
            case 0:
                return now.sections.width[section];
            case 1:
                return now.sections.hours[section];
            case 2:
                return now.sections.life[section];
            case 3:
                return now.sections.condition[section];
            case 4:
                return now.sections.isMoving(section) ? now.sections.left[section] : NONE;
            case 5:
                return now.sections.closings[section];
            default:
                return BAD_VALUE;
        }
    }

    public int pump(int pump, int what) {
        if (!now.pumps.has(pump)) {
            return UNKNOWN;
        }
        switch (what) {
            case 0:
                return now.pumps.power[pump];
            case 1:
                return now.pumps.water[pump];
            case 2:
                return now.pumps.on[pump] ? 1 : 0;
            case 3:
                return now.pumps.wouldRun(pump) ? 1 : 0;
            case 4:
                return now.pumps.ran[pump];
            default:
                return BAD_VALUE;
        }
    }

    public double level(int what) {
        switch (what) {
            case 0:
                return now.outer();
            case 1:
                return now.basin.inner();
            case 2:
                return Levels.ofBits(now.alarm);
            default:
                return 0.0 / 0.0;
        }
    }

    public long water(int what) {
        switch (what) {
            case 0:
                return now.basin.volume;
            case 1:
                return now.basin.flowedIn;
            case 2:
                return now.basin.flowedOut;
            case 3:
                return now.basin.flowedOver;
            case 4:
                return now.basin.brought;
            case 5:
                return now.basin.pumped;
            default:
                return BAD_VALUE;
        }
    }

    public double forecast(int hours) {
        if (isOutside(hours, 0, MOST_HOURS_AHEAD)) {
            return 0.0 / 0.0;
        }
        trial.copyFrom(now);
        trial.passHours(hours);
        return trial.basin.inner();
    }

    public int shutIn() {
        trial.copyFrom(now);
        for (int hours = 0; hours <= MOST_HOURS_AHEAD; hours++) {
            if (trial.sections.areAllShut()) {
                return hours;
            }
            trial.passHours(1);
        }
        return NONE;
    }

    public long tide(int hour) {
        return isHourOfDay(hour) ? now.tides[hour] : BAD_VALUE;
    }

    public int count(int what) {
        switch (what) {
            case 0:
                return now.hour;
            case 1:
                return now.order;
            case 2:
                return now.sections.moving();
            case 3:
                return now.sections.countIn(Sections.CLOSED);
            case 4:
                return now.sections.countIn(Sections.JAMMED);
            case 5:
                return now.districts.weightForClosing();
            case 6:
                return now.districts.weightOfAll();
            case 7:
                return now.closingsBegun;
            case 8:
                return now.drills;
            case 9:
                return now.basin.area;
            case 10:
                return now.pumps.limit;
            default:
                return size(what);
        }
    }

    /** The part of count() that tells how many there are of something. */
    private int size(int what) {
        switch (what) {
            case 11:
                return now.sections.many;
            case 12:
                return now.districts.many;
            case 13:
                return now.streams.many;
            case 14:
                return now.pumps.many;
            case 15:
                return history.many;
            case 16:
                return text.length;
            case 17:
                return now.pumps.idle;
            default:
                return BAD_VALUE;
        }
    }

    private static boolean isOutside(int value, int least, int most) {
        return value < least || value > most;
    }

    private static boolean isHourOfDay(int hour) {
        return hour >= 0 && hour < HOURS_OF_DAY;
    }

    /**
     * Levels by their bits. A state keeps tides and the alarm as bits, since tide() tells the bits
     * (-0.0 has its own) and the library that we may use has no Double.
     */
    private static final class Levels {
        static final int LOWEST_TENTHS = -50;

        private static final long SIGN = 0x8000000000000000L;
        private static final long FRACTION = 0x000fffffffffffffL;
        private static final long HIDDEN_BIT = 0x0010000000000000L;
        private static final int FRACTION_BITS = 52;
        private static final long FIVE = 0x4014000000000000L;
        private static final long TEN = 0x4024000000000000L;
        /** With this exponent in its bits, a double is the whole number of its 53 bits. */
        private static final int WHOLE_EXPONENT = 1075;

        /** From -5.0 to 10.0. Without the sign, bits are ordered as their levels are. */
        static boolean isLevel(long bits) {
            return bits < 0 ? (bits & ~SIGN) <= FIVE : bits <= TEN;
        }

        /** From 0.0 to 10.0, and not -0.0. */
        static boolean isCrest(long bits) {
            return bits >= 0 && bits <= TEN;
        }

        static boolean isSame(long bits, long others) {
            return bits == others || ((bits | others) & ~SIGN) == 0;
        }

        /** The level of bits that isLevel allows. */
        static double ofBits(long bits) {
            double size = sizeOf(bits & ~SIGN);
            return bits < 0 ? -size : size;
        }

        /** The level of bits without a sign; each division is exact. */
        private static double sizeOf(long bits) {
            // Most tides are never set, and a 0 would take the longest way through the halvings.
            if (bits == 0) {
                return 0.0;
            }
            int exponent = (int) (bits >>> FRACTION_BITS);
            long fraction = bits & FRACTION;
            long whole = exponent == 0 ? fraction : fraction | HIDDEN_BIT;
            int halvings = WHOLE_EXPONENT - Math.max(exponent, 1);
            double size = (double) whole;
            for (; halvings > 32; halvings -= 32) {
                size = size / (double) (1L << 32);
            }
            return size / (double) (1L << halvings);
        }

        /** The bits of (double) tenths / 10.0; tenths is above -100 and below 100. */
        static long bitsOfTenths(int tenths) {
            if (tenths == 0) {
                return 0L;
            }
            int doublings = 49;
            double whole = (double) Math.abs(tenths) / 10.0 * (double) (1L << doublings);
            for (; doublings < 60 && whole < (double) HIDDEN_BIT; doublings++) {
                whole = whole * 2.0;
            }
            long exponent = WHOLE_EXPONENT - doublings;
            long size = (exponent << FRACTION_BITS) | ((long) whole & FRACTION);
            return tenths < 0 ? size | SIGN : size;
        }
    }

    /** All that undo() and restore() bring back. */
    private static final class State {
        final Sections sections = new Sections();
        final Districts districts = new Districts();
        final Streams streams = new Streams();
        final Pumps pumps = new Pumps();
        final Basin basin = new Basin();
        final long[] tides = new long[HOURS_OF_DAY];
        long alarm = 0x4000000000000000L; // 2.0
        int hour;
        int order = REST;
        int closingsBegun;
        int drills;

        void copyFrom(State other) {
            sections.copyFrom(other.sections);
            districts.copyFrom(other.districts);
            streams.copyFrom(other.streams);
            pumps.copyFrom(other.pumps);
            basin.copyFrom(other.basin);
            System.arraycopy(other.tides, 0, tides, 0, HOURS_OF_DAY);
            alarm = other.alarm;
            hour = other.hour;
            order = other.order;
            closingsBegun = other.closingsBegun;
            drills = other.drills;
        }

        /** The outer level of the present hour. */
        double outer() {
            return Levels.ofBits(tides[Math.floorMod(hour, HOURS_OF_DAY)]);
        }

        /** Tells whether the closing that begins is a drill. */
        boolean beginClosing() {
            boolean drill = outer() < Levels.ofBits(alarm);
            order = TO_CLOSE;
            closingsBegun++;
            if (drill) {
                drills++;
            }
            return drill;
        }

        /** Tells how many sections jam in these hours. */
        int passHours(int hours) {
            int jams = 0;
            for (int i = 0; i < hours; i++) {
                if (startNext()) {
                    jams++;
                }
                sections.letThrough(basin, outer());
                streams.bringTo(basin);
                pumps.run(basin);
                sections.goOn();
                hour++;
            }
            return jams;
        }

        /** Starts the section whose turn it is, if none moves; tells whether it jams instead. */
        private boolean startNext() {
            if (order == REST || sections.moving() != NONE) {
                return false;
            }
            boolean closing = order == TO_CLOSE;
            int next = closing ? sections.lowestOpen() : sections.highestClosed();
            if (next < 0) {
                order = REST;
                return false;
            }
            if (closing) {
                return sections.startClosing(next);
            }
            sections.startOpening(next);
            return false;
        }
    }

    /** The sections, each with its number as the index. */
    private static final class Sections {
        static final int OPEN = 0;
        static final int CLOSING = 1;
        static final int CLOSED = 2;
        static final int OPENING = 3;
        static final int JAMMED = 4;

        private static final int MOST = 8;

        int many;
        final int[] width = new int[MOST];
        final double[] crest = new double[MOST];
        final int[] hours = new int[MOST];
        final int[] life = new int[MOST];
        final int[] condition = new int[MOST];
        /** Hours left; it means something only while the section moves. */
        final int[] left = new int[MOST];
        /** How often it has closed since its service. */
        final int[] closings = new int[MOST];

        void copyFrom(Sections other) {
            many = other.many;
            System.arraycopy(other.width, 0, width, 0, MOST);
            System.arraycopy(other.crest, 0, crest, 0, MOST);
            System.arraycopy(other.hours, 0, hours, 0, MOST);
            System.arraycopy(other.life, 0, life, 0, MOST);
            System.arraycopy(other.condition, 0, condition, 0, MOST);
            System.arraycopy(other.left, 0, left, 0, MOST);
            System.arraycopy(other.closings, 0, closings, 0, MOST);
        }

        boolean isFull() {
            return many >= MOST;
        }

        boolean has(int section) {
            return section >= 0 && section < many;
        }

        /** Only called when it is not full; tells the number of the new section. */
        int add(int itsWidth, double itsCrest, int itsHours, int itsLife) {
            int section = many;
            width[section] = itsWidth;
            crest[section] = itsCrest;
            hours[section] = itsHours;
            life[section] = itsLife;
            condition[section] = OPEN;
            left[section] = 0;
            closings[section] = 0;
            many++;
            return section;
        }

        boolean isMoving(int section) {
            return condition[section] == CLOSING || condition[section] == OPENING;
        }

        boolean isClosed(int section) {
            return condition[section] == CLOSED;
        }

        /** The section that moves, or NONE. */
        int moving() {
            for (int i = 0; i < many; i++) {
                if (isMoving(i)) {
                    return i;
                }
            }
            return NONE;
        }

        int lowestOpen() {
            for (int i = 0; i < many; i++) {
                if (condition[i] == OPEN) {
                    return i;
                }
            }
            return NONE;
        }

        int highestClosed() {
            for (int i = many - 1; i >= 0; i--) {
                if (isClosed(i)) {
                    return i;
                }
            }
            return NONE;
        }

        int countIn(int wanted) {
            int found = 0;
            for (int i = 0; i < many; i++) {
                if (condition[i] == wanted) {
                    found++;
                }
            }
            return found;
        }

        /** Whether none is open, closing or opening: each is closed or jammed. */
        boolean areAllShut() {
            return countIn(CLOSED) + countIn(JAMMED) == many;
        }

        void renew(int section) {
            condition[section] = OPEN;
            closings[section] = 0;
        }

        /** Tells whether it jams instead, being worn. */
        boolean startClosing(int section) {
            if (closings[section] >= life[section]) {
                condition[section] = JAMMED;
                return true;
            }
            condition[section] = CLOSING;
            left[section] = hours[section];
            return false;
        }

        void startOpening(int section) {
            condition[section] = OPENING;
            left[section] = hours[section];
        }

        void goOn() {
            int section = moving();
            if (section < 0) {
                return;
            }
            left[section]--;
            if (left[section] > 0) {
                return;
            }
            if (condition[section] == CLOSING) {
                condition[section] = CLOSED;
                closings[section]++;
            } else {
                condition[section] = OPEN;
            }
        }

        void letThrough(Basin basin, double outer) {
            double inner = basin.inner();
            for (int i = 0; i < many; i++) {
                if (!isClosed(i)) {
                    basin.flowThrough((long) (width[i] * 900.0 * (outer - inner)));
                }
            }
            for (int i = 0; i < many; i++) {
                if (isClosed(i) && crest[i] < outer) {
                    basin.flowOver((long) (width[i] * 450.0 * (outer - crest[i])));
                }
            }
        }
    }

    /** The districts, each with its number as the index. */
    private static final class Districts {
        private static final int MOST = 6;

        int many;
        final int[] weight = new int[MOST];
        /** Whether its vote is for closing. */
        final boolean[] closing = new boolean[MOST];

        void copyFrom(Districts other) {
            many = other.many;
            System.arraycopy(other.weight, 0, weight, 0, MOST);
            System.arraycopy(other.closing, 0, closing, 0, MOST);
        }

        boolean isFull() {
            return many >= MOST;
        }

        boolean has(int district) {
            return district >= 0 && district < many;
        }

        /** Only called when it is not full; tells the number of the new district. */
        int add(int itsWeight) {
            int district = many;
            weight[district] = itsWeight;
            closing[district] = false;
            many++;
            return district;
        }

        int weightForClosing() {
            int sum = 0;
            for (int i = 0; i < many; i++) {
                if (closing[i]) {
                    sum += weight[i];
                }
            }
            return sum;
        }

        int weightOfAll() {
            int sum = 0;
            for (int i = 0; i < many; i++) {
                sum += weight[i];
            }
            return sum;
        }

        boolean allowClosing() {
            return 2 * weightForClosing() > weightOfAll();
        }
    }

    /** The side streams, each with its number as the index. */
    private static final class Streams {
        private static final int MOST = 4;

        int many;
        final int[] water = new int[MOST];

        void copyFrom(Streams other) {
            many = other.many;
            System.arraycopy(other.water, 0, water, 0, MOST);
        }

        boolean isFull() {
            return many >= MOST;
        }

        boolean has(int stream) {
            return stream >= 0 && stream < many;
        }

        /** Only called when it is not full; tells the number of the new stream. */
        int add(int itsWater) {
            int stream = many;
            water[stream] = itsWater;
            many++;
            return stream;
        }

        void bringTo(Basin basin) {
            for (int i = 0; i < many; i++) {
                basin.bring(water[i]);
            }
        }
    }

    /** The pumps, each with its number as the index, and the power that they share. */
    private static final class Pumps {
        private static final int MOST = 6;

        int many;
        int limit = 100;
        /** The pumps that did not run in the latest hour. */
        int idle;
        final int[] power = new int[MOST];
        final int[] water = new int[MOST];
        final boolean[] on = new boolean[MOST];
        /** The hours in which it has run. */
        final int[] ran = new int[MOST];

        void copyFrom(Pumps other) {
            many = other.many;
            limit = other.limit;
            idle = other.idle;
            System.arraycopy(other.power, 0, power, 0, MOST);
            System.arraycopy(other.water, 0, water, 0, MOST);
            System.arraycopy(other.on, 0, on, 0, MOST);
            System.arraycopy(other.ran, 0, ran, 0, MOST);
        }

        boolean isFull() {
            return many >= MOST;
        }

        boolean has(int pump) {
            return pump >= 0 && pump < many;
        }

        /** Only called when it is not full; tells the number of the new pump. */
        int add(int itsPower, int itsWater) {
            int pump = many;
            power[pump] = itsPower;
            water[pump] = itsWater;
            on[pump] = false;
            ran[pump] = 0;
            many++;
            return pump;
        }

        int countOn() {
            int found = 0;
            for (int i = 0; i < many; i++) {
                if (on[i]) {
                    found++;
                }
            }
            return found;
        }

        /** Whether a pump runs when those before it draw so much power. */
        private boolean runsBeside(int drawn, int pump) {
            return on[pump] && drawn + power[pump] <= limit;
        }

        boolean wouldRun(int pump) {
            int drawn = 0;
            for (int i = 0; i < pump && i < many; i++) {
                if (runsBeside(drawn, i)) {
                    drawn += power[i];
                }
            }
            return runsBeside(drawn, pump);
        }

        void run(Basin basin) {
            int drawn = 0;
            idle = 0;
            for (int i = 0; i < many; i++) {
                if (runsBeside(drawn, i)) {
                    drawn += power[i];
                    ran[i]++;
                    basin.pumpOut(water[i]);
                } else {
                    idle++;
                }
            }
        }
    }

    /** The basin and the account of its water, all in whole cubic metres. */
    private static final class Basin {
        int area = 100000;
        long volume;
        long flowedIn;
        long flowedOut;
        long flowedOver;
        long brought;
        long pumped;

        void copyFrom(Basin other) {
            area = other.area;
            volume = other.volume;
            flowedIn = other.flowedIn;
            flowedOut = other.flowedOut;
            flowedOver = other.flowedOver;
            brought = other.brought;
            pumped = other.pumped;
        }

        double inner() {
            return (double) volume / area;
        }

        /** Water above 0 flows in; water below 0 flows out, as far as there is any. */
        void flowThrough(long water) {
            if (water > 0) {
                volume += water;
                flowedIn += water;
            } else {
                flowedOut += take(-water);
            }
        }

        void flowOver(long water) {
            volume += water;
            flowedOver += water;
        }

        void bring(long water) {
            volume += water;
            brought += water;
        }

        void pumpOut(long water) {
            pumped += take(water);
        }

        /** Takes so much out, or as much as there is; tells how much. */
        private long take(long water) {
            long taken = Math.min(water, volume);
            volume -= taken;
            return taken;
        }
    }

    /** The text, and the levels that it tells. */
    private static final class TideText {
        private static final int MOST = 60;
        /** A level takes three characters at least, and a comma stands between two. */
        private static final int MOST_LEVELS = 15;

        private static final int AT_START = 0;
        private static final int BEHIND_MINUS = 1;
        private static final int BEHIND_METRES = 2;
        private static final int BEHIND_POINT = 3;
        private static final int BEHIND_LEVEL = 4;

        int length;
        private final char[] characters = new char[MOST];
        /** The levels of the text in tenths of a metre, as readTenths() found them. */
        final int[] tenths = new int[MOST_LEVELS];
        private int levels;

        boolean isFull() {
            return length >= MOST;
        }

        /** Only called when it is not full; tells the length then. */
        int append(char character) {
            characters[length] = character;
            length++;
            return length;
        }

        /** Tells the length that it had. */
        int empty() {
            int before = length;
            length = 0;
            return before;
        }

        /** The index of the first character that is not allowed, or of the missing one; or NONE. */
        int fault() {
            int place = AT_START;
            for (int i = 0; i < length; i++) {
                place = placeBehind(place, characters[i]);
                if (place == NONE) {
                    return i;
                }
            }
            return place == BEHIND_LEVEL ? NONE : length;
        }

        /** The place behind a character at a place, or NONE if it is not allowed there. */
        private static int placeBehind(int place, char character) {
            switch (place) {
                case AT_START:
                    if (character == '-') {
                        return BEHIND_MINUS;
                    }
                    return isDigit(character) ? BEHIND_METRES : NONE;
                case BEHIND_MINUS:
                    return isDigit(character) ? BEHIND_METRES : NONE;
                case BEHIND_METRES:
                    return character == '.' ? BEHIND_POINT : NONE;
                case BEHIND_POINT:
                    return isDigit(character) ? BEHIND_LEVEL : NONE;
                default:
                    return character == ',' ? AT_START : NONE;
            }
        }

        private static boolean isDigit(char character) {
            return character >= '0' && character <= '9';
        }

        /** Reads a text without a fault; tells how many levels it has. */
        int readTenths() {
            levels = 0;
            int value = 0;
            boolean negative = false;
            for (int i = 0; i < length; i++) {
                char character = characters[i];
                if (character == '-') {
                    negative = true;
                } else if (isDigit(character)) {
                    value = value * 10 + (character - '0');
                } else if (character == ',') {
                    addLevel(negative ? -value : value);
                    value = 0;
                    negative = false;
                }
            }
            addLevel(negative ? -value : value);
            return levels;
        }

        private void addLevel(int value) {
            if (levels < MOST_LEVELS) {
                tenths[levels] = value;
                levels++;
            }
        }

        int lowestTenths() {
            int lowest = 0;
            for (int i = 0; i < levels; i++) {
                lowest = Math.min(lowest, tenths[i]);
            }
            return lowest;
        }
    }

    /** The latest states, the oldest of which makes room for a new one. */
    private static final class History {
        private static final int MOST = 5;

        /** A ring: a row is made when it is first needed, and used again and again. */
        private final State[] rows = new State[MOST];
        private int oldest;
        int many;

        void record(State state) {
            int at = Math.floorMod(oldest + many, MOST);
            State row = rows[at];
            if (row == null) {
                row = new State();
                rows[at] = row;
            }
            row.copyFrom(state);
            if (many < MOST) {
                many++;
            } else {
                oldest = Math.floorMod(oldest + 1, MOST);
            }
        }

        /** Restores and removes the latest state; tells whether there was one. */
        boolean takeLatest(State into) {
            if (many == 0) {
                return false;
            }
            State row = rows[Math.floorMod(oldest + many - 1, MOST)];
            if (row == null) {
                return false;
            }
            many--;
            into.copyFrom(row);
            return true;
        }
    }
}
