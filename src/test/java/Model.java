import java.util.ArrayDeque;
import java.util.ArrayList;
import java.util.List;
import java.util.regex.Matcher;
import java.util.regex.Pattern;

/**
 * The document once more, in the plainest Java and with the Java library: what the program answers
 * is compared with what this answers. It shares no code with the program.
 */
final class Model {
    static final int UNKNOWN = -1;
    static final int BAD = -2;
    static final int FULL = -3;
    static final int NOT = -4;
    static final int NONE = -5;

    private static final Pattern TIDES =
            Pattern.compile("-?[0-9]\\.[0-9](,-?[0-9]\\.[0-9])*");

    static final class Section {
        int width;
        double crest;
        int hours;
        int life;
        String is = "open";
        int left;
        int closed;

        Section copy() {
            Section c = new Section();
            c.width = width;
            c.crest = crest;
            c.hours = hours;
            c.life = life;
            c.is = is;
            c.left = left;
            c.closed = closed;
            return c;
        }

        boolean moves() {
            return is.equals("closing") || is.equals("opening");
        }
    }

    static final class Pump {
        int power;
        int water;
        boolean on;
        int ran;

        Pump copy() {
            Pump c = new Pump();
            c.power = power;
            c.water = water;
            c.on = on;
            c.ran = ran;
            return c;
        }
    }

    static final class State {
        List<Section> sections = new ArrayList<>();
        List<int[]> districts = new ArrayList<>(); // weight, vote
        List<Integer> streams = new ArrayList<>();
        List<Pump> pumps = new ArrayList<>();
        double[] tide = new double[24];
        double alarm = 2.0;
        int area = 100000;
        int limit = 100;
        int hour;
        String order = "rest";
        long volume;
        long in;
        long out;
        long over;
        long brought;
        long pumped;
        int closings;
        int drills;
        int idle;

        State copy() {
            State c = new State();
            for (Section s : sections) {
                c.sections.add(s.copy());
            }
            for (int[] d : districts) {
                c.districts.add(d.clone());
            }
            c.streams.addAll(streams);
            for (Pump p : pumps) {
                c.pumps.add(p.copy());
            }
            c.tide = tide.clone();
            c.alarm = alarm;
            c.area = area;
            c.limit = limit;
            c.hour = hour;
            c.order = order;
            c.volume = volume;
            c.in = in;
            c.out = out;
            c.over = over;
            c.brought = brought;
            c.pumped = pumped;
            c.closings = closings;
            c.drills = drills;
            c.idle = idle;
            return c;
        }

        double outer() {
            return tide[hour % 24];
        }

        double inner() {
            return (double) volume / area;
        }

        int in(String what) {
            int n = 0;
            for (Section s : sections) {
                if (s.is.equals(what)) {
                    n++;
                }
            }
            return n;
        }

        boolean shut() {
            return in("open") + in("closing") + in("opening") == 0;
        }

        int weights(boolean all) {
            int sum = 0;
            for (int[] d : districts) {
                sum += all || d[1] == 1 ? d[0] : 0;
            }
            return sum;
        }

        /** An hour passes; the number of sections that jam. */
        int hour() {
            int jams = 0;
            // 1
            if (in("closing") + in("opening") == 0) {
                if (order.equals("close")) {
                    Section next = null;
                    for (Section s : sections) {
                        if (next == null && s.is.equals("open")) {
                            next = s;
                        }
                    }
                    if (next == null) {
                        order = "rest";
                    } else if (next.closed == next.life) {
                        next.is = "jammed";
                        jams = 1;
                    } else {
                        next.is = "closing";
                        next.left = next.hours;
                    }
                } else if (order.equals("open")) {
                    Section next = null;
                    for (Section s : sections) {
                        if (s.is.equals("closed")) {
                            next = s;
                        }
                    }
                    if (next == null) {
                        order = "rest";
                    } else {
                        next.is = "opening";
                        next.left = next.hours;
                    }
                }
            }
            // 2
            double outer = outer();
            double inner = inner();
            for (Section s : sections) {
                if (s.is.equals("closed")) {
                    continue;
                }
                long w = (long) (s.width * 900.0 * (outer - inner));
                if (w > 0) {
                    volume += w;
                    in += w;
                } else if (w < 0) {
                    long gone = -w > volume ? volume : -w;
                    volume -= gone;
                    out += gone;
                }
            }
            for (Section s : sections) {
                if (s.is.equals("closed") && s.crest < outer) {
                    long w = (long) (s.width * 450.0 * (outer - s.crest));
                    volume += w;
                    over += w;
                }
            }
            // 3
            for (int water : streams) {
                volume += water;
                brought += water;
            }
            // 4
            int drawn = 0;
            idle = 0;
            for (Pump p : pumps) {
                if (p.on && drawn + p.power <= limit) {
                    drawn += p.power;
                    p.ran++;
                    long gone = p.water > volume ? volume : p.water;
                    volume -= gone;
                    pumped += gone;
                } else {
                    idle++;
                }
            }
            // 5
            for (Section s : sections) {
                if (s.moves()) {
                    s.left--;
                    if (s.left == 0) {
                        if (s.is.equals("closing")) {
                            s.is = "closed";
                            s.closed++;
                        } else {
                            s.is = "open";
                        }
                    }
                }
            }
            // 6
            hour++;
            return jams;
        }
    }

    State state = new State();
    String text = "";
    ArrayDeque<State> history = new ArrayDeque<>();
    State snapshot = null;

    private void act() {
        history.addLast(state.copy());
        if (history.size() > 5) {
            history.removeFirst();
        }
    }

    private static boolean in(int value, int least, int most) {
        return least <= value && value <= most;
    }

    private static boolean isLevel(double level) {
        return !Double.isNaN(level) && level >= -5.0 && level <= 10.0;
    }

    int addSection(int width, long crest, int hours, int life) {
        double level = Double.longBitsToDouble(crest);
        boolean minusZero = level == 0.0 && 1.0 / level < 0.0;
        if (!in(width, 1, 50) || !(level >= 0.0 && level <= 10.0) || minusZero
                || !in(hours, 1, 6) || !in(life, 1, 20)) {
            return BAD;
        }
        if (state.sections.size() == 8) {
            return FULL;
        }
        act();
        Section s = new Section();
        s.width = width;
        s.crest = level;
        s.hours = hours;
        s.life = life;
        state.sections.add(s);
        return state.sections.size() - 1;
    }

    int addDistrict(int weight) {
        if (!in(weight, 1, 99)) {
            return BAD;
        }
        if (state.districts.size() == 6) {
            return FULL;
        }
        act();
        state.districts.add(new int[] {weight, 0});
        return state.districts.size() - 1;
    }

    int addStream(int water) {
        if (!in(water, 0, 99999)) {
            return BAD;
        }
        if (state.streams.size() == 4) {
            return FULL;
        }
        act();
        state.streams.add(water);
        return state.streams.size() - 1;
    }

    int addPump(int power, int water) {
        if (!in(power, 1, 99) || !in(water, 1, 99999)) {
            return BAD;
        }
        if (state.pumps.size() == 6) {
            return FULL;
        }
        act();
        Pump p = new Pump();
        p.power = power;
        p.water = water;
        state.pumps.add(p);
        return state.pumps.size() - 1;
    }

    int setStream(int stream, int water) {
        if (!in(stream, 0, state.streams.size() - 1)) {
            return UNKNOWN;
        }
        if (!in(water, 0, 99999)) {
            return BAD;
        }
        int before = state.streams.get(stream);
        if (before == water) {
            return NONE;
        }
        act();
        state.streams.set(stream, water);
        return before;
    }

    int switchPump(int pump, boolean on) {
        if (!in(pump, 0, state.pumps.size() - 1)) {
            return UNKNOWN;
        }
        if (state.pumps.get(pump).on == on) {
            return NONE;
        }
        act();
        state.pumps.get(pump).on = on;
        int n = 0;
        for (Pump p : state.pumps) {
            n += p.on ? 1 : 0;
        }
        return n;
    }

    int set(int what, int value) {
        if (what == 0 && in(value, 1000, 1000000)) {
            int before = state.area;
            if (before == value) {
                return NONE;
            }
            act();
            state.area = value;
            return before;
        }
        if (what == 1 && in(value, 0, 600)) {
            int before = state.limit;
            if (before == value) {
                return NONE;
            }
            act();
            state.limit = value;
            return before;
        }
        return BAD;
    }

    int setAlarm(long bits) {
        double level = Double.longBitsToDouble(bits);
        if (!isLevel(level)) {
            return BAD;
        }
        if (level == state.alarm) {
            return NONE;
        }
        act();
        state.alarm = level;
        return 1;
    }

    int setTide(int hour, long bits) {
        double level = Double.longBitsToDouble(bits);
        if (!in(hour, 0, 23) || !isLevel(level)) {
            return BAD;
        }
        if (level == state.tide[hour]) {
            return NONE;
        }
        act();
        state.tide[hour] = level;
        return 1;
    }

    int vote(int district, boolean closing) {
        if (!in(district, 0, state.districts.size() - 1)) {
            return UNKNOWN;
        }
        if ((state.districts.get(district)[1] == 1) == closing) {
            return NONE;
        }
        act();
        state.districts.get(district)[1] = closing ? 1 : 0;
        return state.weights(false);
    }

    int close() {
        if (!(state.weights(false) > state.weights(true) / 2.0) || state.shut()) {
            return NOT;
        }
        if (state.order.equals("close")) {
            return NONE;
        }
        act();
        state.order = "close";
        state.closings++;
        if (state.outer() < state.alarm) {
            state.drills++;
            return 1;
        }
        return 0;
    }

    int open() {
        if (state.in("closed") + state.in("closing") + state.in("opening") == 0) {
            return NOT;
        }
        if (state.order.equals("open")) {
            return NONE;
        }
        act();
        state.order = "open";
        return state.in("closed");
    }

    int service(int section) {
        if (!in(section, 0, state.sections.size() - 1)) {
            return UNKNOWN;
        }
        Section s = state.sections.get(section);
        if (s.moves() || s.is.equals("closed")) {
            return NOT;
        }
        if (s.is.equals("open") && s.closed == 0) {
            return NONE;
        }
        act();
        s = state.sections.get(section);
        int before = s.closed;
        s.closed = 0;
        s.is = "open";
        return before;
    }

    int pass(int hours) {
        if (!in(hours, 1, 48)) {
            return BAD;
        }
        act();
        int jams = 0;
        for (int i = 0; i < hours; i++) {
            jams += state.hour();
        }
        return jams;
    }

    int type(char character) {
        if (text.length() == 60) {
            return FULL;
        }
        text += character;
        return text.length();
    }

    int clearText() {
        int n = text.length();
        text = "";
        return n;
    }

    int readTides(int hour) {
        if (!in(hour, 0, 23)) {
            return BAD;
        }
        for (int end = 0; end <= text.length(); end++) {
            Matcher m = TIDES.matcher(text.substring(0, end));
            boolean whole = m.matches();
            if (!whole && !m.hitEnd()) {
                return -100 - (end - 1);
            }
            if (!whole && end == text.length()) {
                return -100 - end;
            }
        }
        String[] parts = text.split(",");
        if (hour + parts.length > 24) {
            return FULL;
        }
        double[] levels = new double[parts.length];
        for (int i = 0; i < parts.length; i++) {
            int v = Integer.parseInt(parts[i].replace(".", ""));
            levels[i] = (double) v / 10.0;
            if (levels[i] < -5.0) {
                return NOT;
            }
        }
        act();
        System.arraycopy(levels, 0, state.tide, hour, levels.length);
        return levels.length;
    }

    int undo() {
        if (history.isEmpty()) {
            return NONE;
        }
        state = history.removeLast();
        return history.size();
    }

    int keep() {
        snapshot = state.copy();
        return state.hour;
    }

    int restore() {
        if (snapshot == null) {
            return NONE;
        }
        act();
        state = snapshot.copy();
        return state.hour;
    }

    int section(int section, int what) {
        if (!in(section, 0, state.sections.size() - 1)) {
            return UNKNOWN;
        }
        Section s = state.sections.get(section);
        switch (what) {
            case 0: return s.width;
            case 1: return s.hours;
            case 2: return s.life;
            case 3: return List.of("open", "closing", "closed", "opening", "jammed").indexOf(s.is);
            case 4: return s.moves() ? s.left : NONE;
            case 5: return s.closed;
            default: return BAD;
        }
    }

    int pump(int pump, int what) {
        if (!in(pump, 0, state.pumps.size() - 1)) {
            return UNKNOWN;
        }
        Pump p = state.pumps.get(pump);
        switch (what) {
            case 0: return p.power;
            case 1: return p.water;
            case 2: return p.on ? 1 : 0;
            case 3:
                State next = state.copy();
                next.hour();
                return next.pumps.get(pump).ran - p.ran;
            case 4: return p.ran;
            default: return BAD;
        }
    }

    double level(int what) {
        switch (what) {
            case 0: return state.outer();
            case 1: return state.inner();
            case 2: return state.alarm;
            default: return Double.NaN;
        }
    }

    long water(int what) {
        long[] all = {state.volume, state.in, state.out, state.over, state.brought, state.pumped};
        return in(what, 0, 5) ? all[what] : BAD;
    }

    double forecast(int hours) {
        if (!in(hours, 0, 48)) {
            return Double.NaN;
        }
        State then = state.copy();
        for (int i = 0; i < hours; i++) {
            then.hour();
        }
        return then.inner();
    }

    int shutIn() {
        State then = state.copy();
        for (int i = 0; i <= 48; i++) {
            if (then.shut()) {
                return i;
            }
            then.hour();
        }
        return NONE;
    }

    long tide(int hour) {
        return in(hour, 0, 23) ? Double.doubleToLongBits(state.tide[hour]) : BAD;
    }

    int count(int what) {
        int moving = NONE;
        for (int i = 0; i < state.sections.size(); i++) {
            if (state.sections.get(i).moves()) {
                moving = i;
            }
        }
        int[] all = {state.hour, List.of("rest", "close", "open").indexOf(state.order), moving,
            state.in("closed"), state.in("jammed"), state.weights(false), state.weights(true),
            state.closings, state.drills, state.area, state.limit, state.sections.size(),
            state.districts.size(), state.streams.size(), state.pumps.size(), history.size(),
            text.length(), state.idle};
        return in(what, 0, 17) ? all[what] : BAD;
    }
}
