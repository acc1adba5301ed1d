import java.util.ArrayDeque;
import java.util.ArrayList;
import java.util.Arrays;
import java.util.Deque;
import java.util.List;
import java.util.regex.Matcher;
import java.util.regex.Pattern;

/**
 * The document once more, as plainly as the Java library allows: it keeps every error of every
 * minute, copies whole states, and reads texts with a pattern.
 */
final class Model {
    private static final long GONE = 1000000000L;
    private static final int[][] RANGES = {{1, 100}, {1, 1000}, {0, 30000}, {0, 100000}, {0, 20000},
        {0, 50000}, {0, 500}, {0, 65535}, {0, 60}};
    private static final int[] FACTORS = {0, 10, 20, 40, 80};
    private static final Pattern LEGS;

    static {
        String leg = "c(?:0|[1-9][0-9]?|[12][0-9][0-9]|3[0-5][0-9])"
            + "v(?:0|[1-9][0-9]?|[123][0-9][0-9]|400)m(?:[1-9][0-9]?|[1-5][0-9][0-9]|600)";
        LEGS = Pattern.compile(leg + "(?:;" + leg + ")*");
    }

    /** A turning point. */
    private record Turn(long error, int minute) { }

    private static final class S {
        int[] settings = {20, 250, 15000, 5000, 500, 3000, 20, 1, 10};
        long a, t, latitude;
        int course, speed, setDegrees, setSpeed, level = 2, changedAt = -1, direction, found;
        int observations, guesses;
        long way, faults;
        int[] atLevel = new int[5];
        List<int[]> legs = new ArrayList<>();
        List<Long> behind = new ArrayList<>();
        List<Turn> turns = new ArrayList<>();
        List<Integer> lines = new ArrayList<>();
        List<Long> checks = new ArrayList<>();

        S copy() {
            S c = new S();
            c.settings = settings.clone();
            c.a = a; c.t = t; c.latitude = latitude; c.course = course; c.speed = speed;
            c.setDegrees = setDegrees; c.setSpeed = setSpeed; c.level = level; c.changedAt = changedAt;
            c.direction = direction; c.found = found; c.observations = observations;
            c.guesses = guesses; c.way = way; c.faults = faults; c.atLevel = atLevel.clone();
            for (int[] leg : legs) c.legs.add(leg.clone());
            c.behind.addAll(behind);
            c.turns.addAll(turns);
            c.lines.addAll(lines);
            c.checks.addAll(checks);
            return c;
        }

        int time() { return behind.size(); }

        long rest() {
            return free(settings[2], latitude, speed, course)
                - free(settings[2], setDegrees * 1000000L, setSpeed, course);
        }

        void follow() {
            if (!legs.isEmpty()) {
                course = legs.get(0)[0];
                speed = legs.get(0)[1];
            }
        }

        void minute() {
            follow();
            long c = cos((int) (Math.abs(latitude) / 10000));
            long force = Math.multiplyExact((long) settings[0], a - rest()) / 1000;
            t -= Math.multiplyExact(force, c) / 1000000;
            t -= t * FACTORS[level] / 1000;
            t = t > 900000 ? 900000 : t < -900000 ? -900000 : t;
            long ahead = a;
            a += settings[1] * t / 1000;
            a = a > 1800000 ? 1800000 : a < -1800000 ? -1800000 : a;
            if (a != ahead) {
                int d = a > ahead ? 1 : -1;
                if (direction != 0 && direction != d) {
                    found++;
                    turns.add(new Turn(ahead, time()));
                    while (turns.size() > 8) turns.remove(0);
                }
                direction = d;
            }
            latitude += Math.multiplyExact((long) speed * 28, cos(course)) / 1000000;
            latitude = Math.max(-70000000, Math.min(70000000, latitude));
            behind.add(a);
            atLevel[level]++;
            way += speed;
            if (!legs.isEmpty() && --legs.get(0)[2] == 0) {
                legs.remove(0);
                if (legs.isEmpty()) speed = 0;
                follow();
            }
        }

        boolean calm(long bound) { return Math.abs(a - rest()) <= bound && Math.abs(t) <= bound; }

        Turn e(int number) { return turns.get(turns.size() - 4 + number); }

        long byTurns() { return (e(1).error + 2 * e(2).error + e(3).error) / 4; }

        long byMean() {
            long sum = 0;
            for (int minute = e(1).minute + 1; minute <= e(3).minute; minute++) sum += behind.get(minute - 1);
            return sum / (e(3).minute - e(1).minute);
        }

        int reason() {
            if (turns.size() < 3) return 1;
            if (Math.abs(e(3).error - e(2).error) > settings[3]) return 2;
            if (Math.abs(byTurns() - byMean()) > settings[4]) return 3;
            int n = checks.size();
            if (n < 3) return 4;
            long mean = (checks.get(n - 1) + checks.get(n - 2) + checks.get(n - 3)) / 3;
            if (Math.abs(100 * mean - byTurns()) > settings[5]) return 5;
            if (Math.abs(byTurns()) > settings[5]) return 6;
            return level == 0 ? 7 : 0;
        }
    }

    private S s = new S();
    private String pad = "";
    private final Deque<S> history = new ArrayDeque<>();
    private final S[] slots = new S[2];

    static long sin(int x) {
        if (x > 18000) return -sin(x - 18000);
        long u = (long) x * (18000 - x);
        return Math.multiplyExact(4000000L, u) / (405000000 - u);
    }

    static long cos(int x) { return sin((x + 9000) % 36000); }

    static long free(long late, long latitude, long speed, int course) {
        int f = (int) (Math.abs(latitude) / 10000);
        long sine = Long.signum(latitude) * sin(f);
        return Math.multiplyExact(late, sine) / cos(f) - Math.multiplyExact(64 * speed, cos(course)) / cos(f);
    }

    private static boolean out(long value, long least, long most) { return value < least || value > most; }

    private void change() {
        history.addLast(s.copy());
        if (history.size() > 6) history.removeFirst();
    }

    /** What a call answers, as the document says. */
    long call(String name, long... v) {
        int p = v.length > 0 ? (int) v[0] : 0;
        int q = v.length > 1 ? (int) v[1] : 0;
        int r = v.length > 2 ? (int) v[2] : 0;
        switch (name) {
            case "set": return set(p, q);
            case "start": return start(p, q);
            case "place": return place(p);
            case "line": return line(p);
            case "steer": return steer(p, q);
            case "leg": return leg(p, q, r);
            case "pass": return pass(p);
            case "damp": return damp(p);
            case "correct": return correct(p, q);
            case "forgetSwings": return forgetSwings();
            case "observe": return observe(p);
            case "guess": return guess(p);
            case "compass": return compass(p);
            case "turn": return turn(p, q);
            case "check": return p < 0 || p >= s.checks.size() ? -1 - GONE : s.checks.get(s.checks.size() - 1 - p);
            case "reason": return s.reason();
            case "state": return state(p);
            case "wave": return out(p, 0, 35999) || out(q, 0, 1) ? -2 - GONE : q == 0 ? sin(p) : cos(p);
            case "restAt": return out(p, -70, 70) || out(q, 0, 400) || out(r, 0, 35999) ? -2 - GONE
                : free(s.settings[2], p * 1000000L, q, r);
            case "calmIn": return calmIn(p, q);
            case "bestLevel": return bestLevel(p, q);
            case "put": return put(v[0]);
            case "wipe": return wipe();
            case "fault": return fault();
            case "load": return load();
            case "undo": return undo();
            case "save": return save(p);
            case "restore": return restore(p);
            default: throw new IllegalArgumentException(name);
        }
    }

    private long set(int setting, int value) {
        if (out(setting, 0, 8) || out(value, RANGES[setting][0], RANGES[setting][1])) return -2;
        change();
        int previous = s.settings[setting];
        s.settings[setting] = value;
        return previous;
    }

    private long start(int error, int tilt) {
        if (out(error, -900000, 900000) || out(tilt, -100000, 100000)) return -2 - GONE;
        change();
        long previous = s.a;
        s.a = error;
        s.t = tilt;
        return previous;
    }

    private long place(int degrees) {
        if (out(degrees, -70, 70)) return -2;
        if (!s.legs.isEmpty()) return -5;
        change();
        s.latitude = degrees * 1000000L;
        return 0;
    }

    private long line(int bearing) {
        if (out(bearing, 0, 35999)) return -2;
        if (s.lines.size() == 6) return -4;
        change();
        s.lines.add(bearing);
        return s.lines.size() - 1;
    }

    private long steer(int course, int speed) {
        if (out(course, 0, 35999) || out(speed, 0, 400)) return -2;
        change();
        int dropped = s.legs.size();
        s.legs.clear();
        s.course = course;
        s.speed = speed;
        return dropped;
    }

    private long leg(int course, int speed, int minutes) {
        if (out(course, 0, 35999) || out(speed, 0, 400) || out(minutes, 1, 600)) return -2;
        if (s.legs.size() == 8) return -4;
        change();
        s.legs.add(new int[] {course, speed, minutes});
        s.follow();
        return s.legs.size();
    }

    private long pass(int minutes) {
        if (out(minutes, 1, 600)) return -2;
        if (s.time() + minutes > 100000) return -5;
        change();
        int before = s.found;
        for (int i = 0; i < minutes; i++) s.minute();
        return s.found - before;
    }

    private long damp(int level) {
        if (out(level, 0, 4)) return -2;
        if (s.changedAt >= 0 && s.time() - s.changedAt < s.settings[8]) return -5;
        change();
        int previous = s.level;
        s.level = level;
        s.changedAt = s.time();
        return previous;
    }

    private long correct(int degrees, int speed) {
        if (out(degrees, -70, 70) || out(speed, 0, 400)) return -2;
        change();
        long before = s.rest();
        s.setDegrees = degrees;
        s.setSpeed = speed;
        return before == s.rest() ? 0 : 1;
    }

    private long forgetSwings() {
        change();
        int dropped = s.turns.size();
        s.turns.clear();
        s.direction = 0;
        return dropped;
    }

    private long observe(int line) {
        if (line < 0 || line >= s.lines.size()) return -1;
        change();
        s.settings[7] = (75 * s.settings[7] + 74) % 65537 % 65536;
        long difference = s.a / 100 + s.settings[7] % (2 * s.settings[6] + 1) - s.settings[6];
        s.observations++;
        s.checks.add(difference);
        if (s.checks.size() > 5) s.checks.remove(0);
        long bearing = s.lines.get(line) + difference;
        while (bearing < 0) bearing += 36000;
        while (bearing >= 36000) bearing -= 36000;
        return bearing;
    }

    private long guess(int error) {
        if (out(error, -1800000, 1800000)) return -2;
        change();
        long difference = Math.abs(error - s.rest());
        s.guesses++;
        s.faults += difference;
        return difference;
    }

    private long compass(int what) {
        boolean three = s.turns.size() >= 3;
        switch (what) {
            case 0: return s.a;
            case 1: return s.t;
            case 2: return s.rest();
            case 3: return s.direction;
            case 4: return three ? s.byTurns() : -6 - GONE;
            case 5: return three ? s.byMean() : -6 - GONE;
            case 6:
                int n = s.turns.size();
                return n < 2 ? -6 - GONE : s.turns.get(n - 1).error - s.turns.get(n - 2).error;
            case 7: return s.checks.stream().mapToLong(Long::longValue).sum();
            case 8: return s.latitude;
            case 9: return s.setDegrees;
            case 10: return s.faults;
            default: return -2 - GONE;
        }
    }

    private long turn(int index, int what) {
        if (index < 0 || index >= s.turns.size()) return -1 - GONE;
        if (out(what, 0, 1)) return -2 - GONE;
        Turn turn = s.turns.get(s.turns.size() - 1 - index);
        return what == 0 ? turn.error : turn.minute;
    }

    private long state(int what) {
        if (out(what, 0, 30)) return -2;
        long[] first = {s.time(), s.course, s.speed, s.legs.size(), s.legs.isEmpty() ? 0 : s.legs.get(0)[2],
            s.way, s.level, s.changedAt < 0 ? -6 : s.time() - s.changedAt};
        long[] last = {s.turns.size(), s.found, s.checks.size(), s.observations, s.guesses, s.setSpeed,
            s.lines.size(), pad.length(), history.size()};
        return what < 8 ? first[what] : what < 13 ? s.atLevel[what - 8] : what < 22 ? last[what - 13]
            : s.settings[what - 22];
    }

    /** The least number of minutes until a copy at a level is calm, -6 if there is none up to most. */
    private long calm(int level, int bound, int most) {
        S copy = s.copy();
        copy.level = level;
        for (int minutes = 0; minutes <= most; minutes++) {
            if (copy.calm(bound)) return minutes;
            copy.minute();
        }
        return -6;
    }

    private long calmIn(int bound, int most) {
        return out(bound, 0, 100000) || out(most, 1, 2000) ? -2 : calm(s.level, bound, most);
    }

    private long bestLevel(int bound, int most) {
        if (out(bound, 0, 100000) || out(most, 1, 500)) return -2;
        long[] minutes = new long[5];
        for (int level = 0; level < 5; level++) {
            long n = calm(level, bound, most);
            minutes[level] = n < 0 ? Long.MAX_VALUE : n;
        }
        long least = Arrays.stream(minutes).min().getAsLong();
        for (int level = 0; level < 5 && least < Long.MAX_VALUE; level++) {
            if (minutes[level] == least) return level;
        }
        return -6;
    }

    private long put(long characters) {
        StringBuilder text = new StringBuilder();
        boolean ended = false;
        for (int i = 0; i < 8; i++) {
            int code = (int) (characters >>> (8 * i)) & 255;
            if (code == 0) {
                ended = true;
            } else if (ended || out(code, 33, 126)) {
                return -2;
            } else {
                text.insert(0, (char) code);
            }
        }
        if (text.length() == 0) return -2;
        if (pad.length() + text.length() > 80) return -4;
        pad = pad + text;
        return pad.length();
    }

    private long wipe() {
        int before = pad.length();
        pad = "";
        return before;
    }

    /** A sign can stand at its place if some text of legs begins with all up to it. */
    private long fault() {
        for (int length = 1; length <= pad.length(); length++) {
            Matcher m = LEGS.matcher(pad.substring(0, length));
            if (!m.matches() && !m.hitEnd()) return length - 1;
        }
        return LEGS.matcher(pad).matches() ? -6 : pad.length();
    }

    private long load() {
        if (fault() != -6) return -3;
        String[] texts = pad.split(";");
        if (s.legs.size() + texts.length > 8) return -4;
        change();
        for (String text : texts) {
            String[] n = text.split("[cvm]");
            s.legs.add(new int[] {Integer.parseInt(n[1]) * 100, Integer.parseInt(n[2]), Integer.parseInt(n[3])});
        }
        s.follow();
        pad = "";
        return s.legs.size();
    }

    private long undo() {
        if (history.isEmpty()) return -5;
        s = history.removeLast();
        return history.size();
    }

    private long save(int slot) {
        if (out(slot, 0, 1)) return -2;
        slots[slot] = s.copy();
        return s.time();
    }

    private long restore(int slot) {
        if (out(slot, 0, 1)) return -2;
        if (slots[slot] == null) return -5;
        change();
        s = slots[slot].copy();
        return s.time();
    }
}
