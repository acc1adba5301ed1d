/**
 * A trainer for settling a gyrocompass. What each call answers is told by the numbered promises
 * of the project's document; README.md tells how this file is laid out.
 */
public final class GyroTrainer {
    public static final int NO_SUCH = -1, BAD_VALUE = -2, BAD_TEXT = -3, TOO_MANY = -4, NOT_POSSIBLE = -5, NONE = -6;
    public static final int GONE = 1000000000;
    public static final int GAIN = 0, RATE = 1, LATE = 2, SWING = 3, AGREE = 4, TOLERANCE = 5, NOISE = 6, SEED = 7, WAIT = 8;

    // In the order of the settings' numbers.
    private static final long[] SETTING_LEAST = {1, 1, 0, 0, 0, 0, 0, 0, 0};
    private static final long[] SETTING_MOST = {100, 1000, 30000, 100000, 20000, 50000, 500, 65535, 60};
    private static final long[] SETTING_FIRST = {20, 250, 15000, 5000, 500, 3000, 20, 1, 10};
    private static final int SETTINGS = 9;

    private static final long[] DAMPING = {0, 10, 20, 40, 80};
    private static final int LEVELS = 5;
    private static final int FIRST_LEVEL = 2;

    private static final int ONE = 1000000;
    private static final int FULL_CIRCLE = 36000;
    private static final int HALF_CIRCLE = 18000;
    private static final int RIGHT_ANGLE = 9000;
    private static final int MOST_DEGREES = 70;
    private static final int DEGREE = 1000000;

    private static final int MOST_SPEED = 400;
    private static final int MOST_MINUTES = 600;
    private static final int MOST_TIME = 100000;
    private static final int MOST_TILT = 900000;
    private static final int MOST_ERROR = 1800000;
    private static final int MOST_START_ERROR = 900000;
    private static final int MOST_START_TILT = 100000;
    private static final int MOST_BOUND = 100000;
    private static final int MOST_CALM = 2000;
    private static final int MOST_BEST = 500;

    private static final int LEGS = 8;
    private static final int LINES = 6;
    private static final int TURNS = 8;
    private static final int CHECKS = 5;
    private static final int HISTORY = 6;
    private static final int SLOTS = 2;
    private static final int SIGNS = 80;
    private static final int NEVER = -1;

    private final State now;
    private final State forecast;
    private final History history;
    private final State[] slots;
    private final Pad pad;

    public GyroTrainer() {
        now = new State();
        forecast = new State();
        history = new History();
        slots = new State[SLOTS];
        pad = new Pad();
    }

    // ---- setting up

    public int set(int setting, int value) {
        if (!isBetween(setting, 0, SETTINGS - 1)) {
            return BAD_VALUE;
        }
        if (!isBetween(value, at(SETTING_LEAST, setting), at(SETTING_MOST, setting))) {
            return BAD_VALUE;
        }
        history.record(now);
        long previous = at(now.settings, setting);
        write(now.settings, setting, value);
        return (int) previous;
    }

    public int start(int error, int tilt) {
        if (!isBetween(error, -MOST_START_ERROR, MOST_START_ERROR)
                || !isBetween(tilt, -MOST_START_TILT, MOST_START_TILT)) {
            return BAD_VALUE - GONE;
        }
        history.record(now);
        long previous = now.gyro.error;
        now.gyro.error = error;
        now.gyro.tilt = tilt;
        return (int) previous;
    }

    public int place(int degrees) {
        if (!isDegrees(degrees)) {
            return BAD_VALUE;
        }
        if (now.ship.legs.count > 0) {
            return NOT_POSSIBLE;
        }
        history.record(now);
        now.ship.latitude = (long) degrees * DEGREE;
        return now.ship.legs.count;
    }

    public int line(int bearing) {
        if (!isCourse(bearing)) {
            return BAD_VALUE;
        }
        if (now.sights.lines >= LINES) {
            return TOO_MANY;
        }
        history.record(now);
        return now.sights.addLine(bearing);
    }

    // ---- the voyage

    public int steer(int course, int speed) {
        if (!isCourse(course) || !isSpeed(speed)) {
            return BAD_VALUE;
        }
        history.record(now);
        int dropped = now.ship.legs.count;
        now.ship.legs.clear();
        now.ship.course = course;
        now.ship.speed = speed;
        return dropped;
    }

    public int leg(int course, int speed, int minutes) {
        if (!isCourse(course) || !isSpeed(speed) || !isMinutes(minutes)) {
            return BAD_VALUE;
        }
        if (now.ship.legs.count >= LEGS) {
            return TOO_MANY;
        }
        history.record(now);
        now.ship.addLeg(course, speed, minutes);
        return now.ship.legs.count;
    }

    public int pass(int minutes) {
        if (!isMinutes(minutes)) {
            return BAD_VALUE;
        }
        if (now.time + minutes > MOST_TIME) {
            return NOT_POSSIBLE;
        }
        history.record(now);
        int before = now.swings.found;
        for (int minute = 0; minute < minutes; minute++) {
            now.liveMinute();
        }
        return now.swings.found - before;
    }

    // ---- what the trainee does

    public int damp(int level) {
        if (!isBetween(level, 0, LEVELS - 1)) {
            return BAD_VALUE;
        }
        long since = now.minutesSinceDamped();
        if (since != NONE && since < at(now.settings, WAIT)) {
            return NOT_POSSIBLE;
        }
        history.record(now);
        int previous = now.gyro.level;
        now.gyro.level = level;
        now.gyro.dampedAt = now.time;
        return previous;
    }

    public int correct(int degrees, int speed) {
        if (!isDegrees(degrees) || !isSpeed(speed)) {
            return BAD_VALUE;
        }
        history.record(now);
        long before = now.rest();
        now.gyro.setDegrees = degrees;
        now.gyro.setSpeed = speed;
        return now.rest() != before ? 1 : 0;
    }

    public int forgetSwings() {
        history.record(now);
        int dropped = now.swings.errors.count;
        now.swings.forget();
        return dropped;
    }

    public int observe(int line) {
        if (!isBetween(line, 0, now.sights.lines - 1)) {
            return NO_SUCH;
        }
        history.record(now);
        long difference = now.gyro.error / 100 + now.nextNoise();
        now.sights.addCheck(difference);
        return (int) Math.floorMod(at(now.sights.bearings, line) + difference, (long) FULL_CIRCLE);
    }

    public int guess(int error) {
        if (!isBetween(error, -MOST_ERROR, MOST_ERROR)) {
            return BAD_VALUE;
        }
        history.record(now);
        long difference = Math.abs(error - now.rest());
        now.guesses++;
        now.faults += difference;
        return (int) difference;
    }

    // ---- what there is

    public int compass(int what) {
        switch (what) {
            case 0: return (int) now.gyro.error;
            case 1: return (int) now.gyro.tilt;
            case 2: return (int) now.rest();
            case 3: return now.swings.direction;
            case 4: return now.swings.canSettle() ? (int) now.swings.settledByTurns() : NONE - GONE;
            case 5: return now.swings.canSettle() ? (int) now.swings.settledByMean() : NONE - GONE;
            case 6: return now.swings.errors.count >= 2 ? (int) now.swings.lastSwing() : NONE - GONE;
            case 7: return (int) now.sights.checks.sumOf(CHECKS);
            case 8: return (int) now.ship.latitude;
            case 9: return now.gyro.setDegrees;
            case 10: return (int) now.faults;
            default: return BAD_VALUE - GONE;
        }
    }

    public int turn(int index, int what) {
        if (!isBetween(index, 0, now.swings.errors.count - 1)) {
            return NO_SUCH - GONE;
        }
        switch (what) {
            case 0: return (int) at(now.swings.errors.numbers, index);
            case 1: return (int) at(now.swings.times.numbers, index);
            default: return BAD_VALUE - GONE;
        }
    }

    public int check(int index) {
        if (!isBetween(index, 0, now.sights.checks.count - 1)) {
            return NO_SUCH - GONE;
        }
        return (int) at(now.sights.checks.numbers, index);
    }

    public int reason() {
        return now.reasonOfDistrust();
    }

    public int state(int what) {
        if (isBetween(what, 8, 7 + LEVELS)) {
            return (int) at(now.gyro.minutesAt, what - 8);
        }
        if (isBetween(what, 22, 21 + SETTINGS)) {
            return (int) at(now.settings, what - 22);
        }
        return what < 8 ? voyageNumber(what) : trainerNumber(what);
    }

    public int wave(int course, int which) {
        if (!isCourse(course) || !isBetween(which, 0, 1)) {
            return BAD_VALUE - GONE;
        }
        return (int) (which == 0 ? sine(course) : cosine(course));
    }

    public int restAt(int degrees, int speed, int course) {
        if (!isDegrees(degrees) || !isSpeed(speed) || !isCourse(course)) {
            return BAD_VALUE - GONE;
        }
        return (int) freeRest(at(now.settings, LATE), (long) degrees * DEGREE, speed, course);
    }

    // ---- forecasts

    public int calmIn(int bound, int most) {
        if (!isBetween(bound, 0, MOST_BOUND) || !isBetween(most, 1, MOST_CALM)) {
            return BAD_VALUE;
        }
        return minutesUntilCalm(now.gyro.level, bound, most);
    }

    public int bestLevel(int bound, int most) {
        if (!isBetween(bound, 0, MOST_BOUND) || !isBetween(most, 1, MOST_BEST)) {
            return BAD_VALUE;
        }
        int best = NONE;
        int limit = most;
        for (int level = 0; level < LEVELS && limit >= 0; level++) {
            int minutes = minutesUntilCalm(level, bound, limit);
            if (minutes != NONE) {
                best = level;
                // A later level is taken only if it is calm sooner, so the lowest one of equals stays.
                limit = minutes - 1;
            }
        }
        return best;
    }

    // ---- texts

    public int put(long characters) {
        int added = countOfSigns(characters);
        if (added == 0) {
            return BAD_VALUE;
        }
        if (pad.length + added > SIGNS) {
            return TOO_MANY;
        }
        for (int left = added - 1; left >= 0; left--) {
            pad.append((char) (characters >>> (8 * left) & 255));
        }
        return pad.length;
    }

    public int wipe() {
        int before = pad.length;
        pad.length = 0;
        return before;
    }

    public int fault() {
        return pad.readLegs();
    }

    public int load() {
        if (pad.readLegs() != NONE) {
            return BAD_TEXT;
        }
        if (now.ship.legs.count + pad.legs.count > LEGS) {
            return TOO_MANY;
        }
        history.record(now);
        for (int i = 0; i < pad.legs.count; i++) {
            now.ship.addLeg(at(pad.legs.courses, i), at(pad.legs.speeds, i), at(pad.legs.minutes, i));
        }
        pad.length = 0;
        return now.ship.legs.count;
    }

    // ---- undo, saving

    public int undo() {
        if (history.count == 0) {
            return NOT_POSSIBLE;
        }
        history.takeBack(now);
        return history.count;
    }

    public int save(int slot) {
        if (!isBetween(slot, 0, slots.length - 1)) {
            return BAD_VALUE;
        }
        keep(slots, slot, now);
        return (int) now.time;
    }

    public int restore(int slot) {
        if (!isBetween(slot, 0, slots.length - 1)) {
            return BAD_VALUE;
        }
        State saved = slots[slot];
        if (saved == null) {
            return NOT_POSSIBLE;
        }
        history.record(now);
        now.copyFrom(saved);
        return (int) now.time;
    }

    // ---- parts of the calls above

    private int voyageNumber(int what) {
        switch (what) {
            case 0: return (int) now.time;
            case 1: return (int) now.ship.course;
            case 2: return (int) now.ship.speed;
            case 3: return now.ship.legs.count;
            case 4: return (int) now.ship.minutesLeft();
            case 5: return (int) now.ship.way;
            case 6: return now.gyro.level;
            case 7: return (int) now.minutesSinceDamped();
            default: return BAD_VALUE;
        }
    }

    private int trainerNumber(int what) {
        switch (what) {
            case 13: return now.swings.errors.count;
            case 14: return now.swings.found;
            case 15: return now.sights.checks.count;
            case 16: return now.sights.observations;
            case 17: return now.guesses;
            case 18: return now.gyro.setSpeed;
            case 19: return now.sights.lines;
            case 20: return pad.length;
            case 21: return history.count;
            default: return BAD_VALUE;
        }
    }

    /** The least number of minutes until a copy at a level is calm, NONE if it is greater than most. */
    private int minutesUntilCalm(int level, int bound, int most) {
        forecast.copyFrom(now);
        forecast.gyro.level = level;
        for (int minutes = 0; minutes <= most; minutes++) {
            if (forecast.isCalm(bound)) {
                return minutes;
            }
            forecast.liveMinute();
        }
        return NONE;
    }

    /** How many signs the 8 bytes of a number hold, 0 if they are not a text for the pad. */
    private static int countOfSigns(long characters) {
        int count = 0;
        long left = characters;
        for (int i = 0; i < 8 && (left & 255) != 0; i++) {
            if (!isBetween(left & 255, 33, 126)) {
                return 0;
            }
            count++;
            left >>>= 8;
        }
        return left == 0 ? count : 0;
    }

    private static boolean isBetween(long value, long least, long most) {
        return value >= least && value <= most;
    }

    private static boolean isCourse(int course) {
        return isBetween(course, 0, FULL_CIRCLE - 1);
    }

    private static boolean isSpeed(int speed) {
        return isBetween(speed, 0, MOST_SPEED);
    }

    private static boolean isMinutes(int minutes) {
        return isBetween(minutes, 1, MOST_MINUTES);
    }

    private static boolean isDegrees(int degrees) {
        return isBetween(degrees, -MOST_DEGREES, MOST_DEGREES);
    }

    private static long limited(long value, long most) {
        return Math.max(-most, Math.min(most, value));
    }

    // ---- rows: an index outside of one is never used, so that none can go astray

    private static long at(long[] row, int index) {
        return index >= 0 && index < row.length ? row[index] : 0;
    }

    private static void write(long[] row, int index, long value) {
        if (index >= 0 && index < row.length) {
            row[index] = value;
        }
    }

    private static void copy(long[] from, long[] to) {
        for (int i = 0; i < from.length && i < to.length; i++) {
            to[i] = from[i];
        }
    }

    /** Copies a state into a row of states; the place for it is made once and used again. */
    private static void keep(State[] row, int index, State state) {
        if (index < 0 || index >= row.length) {
            return;
        }
        State place = row[index];
        if (place == null) {
            place = new State();
            row[index] = place;
        }
        place.copyFrom(state);
    }

    // ---- angles

    private static long quotient(long dividend, long divisor) {
        return divisor == 0 ? 0 : dividend / divisor;
    }

    private static long sine(long course) {
        long x = course > HALF_CIRCLE ? course - HALF_CIRCLE : course;
        long u = x * (HALF_CIRCLE - x);
        long divisor = 405000000 - u;
        if (divisor == 0) {
            return 0;
        }
        long wave = 4000000 * u / divisor;
        return course > HALF_CIRCLE ? -wave : wave;
    }

    private static long cosine(long course) {
        return sine((course + RIGHT_ANGLE) % FULL_CIRCLE);
    }

    private static long courseOfLatitude(long latitude) {
        return Math.abs(latitude) / 10000;
    }

    /** E of the document: where a compass without correctors is at rest. */
    private static long freeRest(long late, long latitude, long speed, long course) {
        long angle = courseOfLatitude(latitude);
        long sineOfLatitude = latitude < 0 ? -sine(angle) : sine(angle);
        long cosineOfLatitude = cosine(angle);
        return quotient(late * sineOfLatitude, cosineOfLatitude)
                - quotient(64 * speed * cosine(course), cosineOfLatitude);
    }

    /** All that undo() takes back and that a slot keeps. */
    private static final class State {
        final long[] settings = new long[SETTINGS];
        final Ship ship = new Ship();
        final Gyro gyro = new Gyro();
        final Swings swings = new Swings();
        final Sights sights = new Sights();
        long time;
        int guesses;
        long faults;

        State() {
            for (int i = 0; i < settings.length && i < SETTING_FIRST.length; i++) {
                settings[i] = SETTING_FIRST[i];
            }
        }

        void copyFrom(State other) {
            copy(other.settings, settings);
            ship.copyFrom(other.ship);
            gyro.copyFrom(other.gyro);
            swings.copyFrom(other.swings);
            sights.copyFrom(other.sights);
            time = other.time;
            guesses = other.guesses;
            faults = other.faults;
        }

        void liveMinute() {
            long before = gyro.error;
            long cosineOfLatitude = cosine(courseOfLatitude(ship.latitude));
            gyro.swing(at(settings, GAIN), at(settings, RATE), rest(), cosineOfLatitude);
            swings.follow(before, gyro.error, time);
            ship.sailMinute();
            time++;
            write(gyro.minutesAt, gyro.level, at(gyro.minutesAt, gyro.level) + 1);
        }

        /** R of the document. */
        long rest() {
            long late = at(settings, LATE);
            return freeRest(late, ship.latitude, ship.speed, ship.course)
                    - freeRest(late, (long) gyro.setDegrees * DEGREE, gyro.setSpeed, ship.course);
        }

        boolean isCalm(long bound) {
            return Math.abs(gyro.error - rest()) <= bound && Math.abs(gyro.tilt) <= bound;
        }

        long minutesSinceDamped() {
            return gyro.dampedAt == NEVER ? NONE : time - gyro.dampedAt;
        }

        /** Moves the seed on, and answers the noise that it gives. */
        long nextNoise() {
            long seed = (75 * at(settings, SEED) + 74) % 65537;
            if (seed == 65536) {
                seed = 0;
            }
            write(settings, SEED, seed);
            long noise = at(settings, NOISE);
            long width = 2 * noise + 1;
            return width <= 0 ? 0 : seed % width - noise;
        }

        int reasonOfDistrust() {
            if (!swings.canSettle()) {
                return 1;
            }
            long settled = swings.settledByTurns();
            long tolerance = at(settings, TOLERANCE);
            if (Math.abs(swings.lastSwing()) > at(settings, SWING)) {
                return 2;
            }
            if (Math.abs(settled - swings.settledByMean()) > at(settings, AGREE)) {
                return 3;
            }
            if (sights.checks.count < 3) {
                return 4;
            }
            if (Math.abs(100 * (sights.checks.sumOf(3) / 3) - settled) > tolerance) {
                return 5;
            }
            if (Math.abs(settled) > tolerance) {
                return 6;
            }
            return gyro.level == 0 ? 7 : 0;
        }
    }

    /** Where the ship is, how it sails, and the legs that are still to be sailed. */
    private static final class Ship {
        final Legs legs = new Legs(LEGS);
        long latitude;
        long course;
        long speed;
        long way;

        void copyFrom(Ship other) {
            legs.copyFrom(other.legs);
            latitude = other.latitude;
            course = other.course;
            speed = other.speed;
            way = other.way;
        }

        void addLeg(long newCourse, long newSpeed, long minutes) {
            legs.add(newCourse, newSpeed, minutes);
            takeFirstLeg();
        }

        long minutesLeft() {
            return legs.count > 0 ? at(legs.minutes, 0) : 0;
        }

        void sailMinute() {
            latitude = limited(latitude + speed * 28 * cosine(course) / ONE, (long) MOST_DEGREES * DEGREE);
            way += speed;
            if (legs.count > 0) {
                sailMinuteOfLeg();
            }
        }

        private void sailMinuteOfLeg() {
            long left = at(legs.minutes, 0) - 1;
            write(legs.minutes, 0, left);
            if (left > 0) {
                return;
            }
            legs.dropFirst();
            if (legs.count == 0) {
                speed = 0;
            }
            takeFirstLeg();
        }

        private void takeFirstLeg() {
            if (legs.count > 0) {
                course = at(legs.courses, 0);
                speed = at(legs.speeds, 0);
            }
        }
    }

    /** Legs in their order, the first one at index 0. */
    private static final class Legs {
        final long[] courses;
        final long[] speeds;
        final long[] minutes;
        int count;

        Legs(int most) {
            int length = Math.max(0, most);
            courses = new long[length];
            speeds = new long[length];
            minutes = new long[length];
        }

        void copyFrom(Legs other) {
            copy(other.courses, courses);
            copy(other.speeds, speeds);
            copy(other.minutes, minutes);
            count = other.count;
        }

        void clear() {
            count = 0;
        }

        void add(long course, long speed, long minutesOfLeg) {
            if (count >= courses.length) {
                return;
            }
            write(courses, count, course);
            write(speeds, count, speed);
            write(minutes, count, minutesOfLeg);
            count++;
        }

        void dropFirst() {
            for (int i = 1; i < count; i++) {
                write(courses, i - 1, at(courses, i));
                write(speeds, i - 1, at(speeds, i));
                write(minutes, i - 1, at(minutes, i));
            }
            count = Math.max(0, count - 1);
        }
    }

    /** The compass: its error and tilt, its correctors and its damping. */
    private static final class Gyro {
        final long[] minutesAt = new long[LEVELS];
        long error;
        long tilt;
        int setDegrees;
        int setSpeed;
        int level = FIRST_LEVEL;
        long dampedAt = NEVER;

        void copyFrom(Gyro other) {
            copy(other.minutesAt, minutesAt);
            error = other.error;
            tilt = other.tilt;
            setDegrees = other.setDegrees;
            setSpeed = other.setSpeed;
            level = other.level;
            dampedAt = other.dampedAt;
        }

        void swing(long gain, long rate, long rest, long cosineOfLatitude) {
            tilt -= gain * (error - rest) / 1000 * cosineOfLatitude / ONE;
            tilt -= tilt * at(DAMPING, level) / 1000;
            tilt = limited(tilt, MOST_TILT);
            error = limited(error + rate * tilt / 1000, MOST_ERROR);
        }
    }

    /** The turning points that are kept, and what they tell. */
    private static final class Swings {
        final Latest errors = new Latest(TURNS);
        final Latest times = new Latest(TURNS);
        // Of the errors behind all minutes up to each turning point: the difference of two of these
        // is the sum between them, so that no error of a minute has to be kept.
        final Latest sums = new Latest(TURNS);
        long sum;
        int direction;
        int found;

        void copyFrom(Swings other) {
            errors.copyFrom(other.errors);
            times.copyFrom(other.times);
            sums.copyFrom(other.sums);
            sum = other.sum;
            direction = other.direction;
            found = other.found;
        }

        void forget() {
            errors.clear();
            times.clear();
            sums.clear();
            direction = 0;
        }

        void follow(long before, long after, long timeBefore) {
            if (after != before) {
                int newDirection = after > before ? 1 : -1;
                if (direction == -newDirection) {
                    errors.add(before);
                    times.add(timeBefore);
                    sums.add(sum);
                    found++;
                }
                direction = newDirection;
            }
            sum += after;
        }

        boolean canSettle() {
            return errors.count >= 3;
        }

        long settledByTurns() {
            return (at(errors.numbers, 2) + 2 * at(errors.numbers, 1) + at(errors.numbers, 0)) / 4;
        }

        long settledByMean() {
            return quotient(at(sums.numbers, 0) - at(sums.numbers, 2), at(times.numbers, 0) - at(times.numbers, 2));
        }

        long lastSwing() {
            return at(errors.numbers, 0) - at(errors.numbers, 1);
        }
    }

    /** The reference lines, and the checks that were made with them. */
    private static final class Sights {
        final long[] bearings = new long[LINES];
        final Latest checks = new Latest(CHECKS);
        int lines;
        int observations;

        void copyFrom(Sights other) {
            copy(other.bearings, bearings);
            checks.copyFrom(other.checks);
            lines = other.lines;
            observations = other.observations;
        }

        int addLine(long bearing) {
            int number = lines;
            write(bearings, number, bearing);
            lines++;
            return number;
        }

        void addCheck(long difference) {
            checks.add(difference);
            observations++;
        }
    }

    /** The latest numbers of a kind, the very latest one at index 0. */
    private static final class Latest {
        final long[] numbers;
        int count;

        Latest(int most) {
            numbers = new long[Math.max(0, most)];
        }

        void copyFrom(Latest other) {
            copy(other.numbers, numbers);
            count = other.count;
        }

        void clear() {
            count = 0;
        }

        void add(long number) {
            for (int i = numbers.length - 1; i > 0; i--) {
                numbers[i] = numbers[i - 1];
            }
            write(numbers, 0, number);
            count = Math.min(count + 1, numbers.length);
        }

        long sumOf(int most) {
            long sum = 0;
            for (int i = 0; i < count && i < most; i++) {
                sum += at(numbers, i);
            }
            return sum;
        }
    }

    /** The states ahead of the latest changes, in a ring whose places are used again. */
    private static final class History {
        final State[] states = new State[HISTORY];
        int next;
        int count;

        void record(State state) {
            keep(states, next, state);
            next = (next + 1) % HISTORY;
            count = Math.min(count + 1, HISTORY);
        }

        void takeBack(State state) {
            int latest = (next + HISTORY - 1) % HISTORY;
            if (count <= 0 || latest < 0 || latest >= states.length) {
                return;
            }
            State before = states[latest];
            if (before == null) {
                return;
            }
            state.copyFrom(before);
            next = latest;
            count--;
        }
    }

    /** The text from which legs are read, and the legs that were read from it last. */
    private static final class Pad {
        final char[] signs = new char[SIGNS];
        // A leg has six signs at least, so no text of the pad holds more than these.
        final Legs legs = new Legs(SIGNS / 6);
        int length;
        private int index;
        private long number;

        void append(char sign) {
            if (length < 0 || length >= signs.length) {
                return;
            }
            signs[length] = sign;
            length++;
        }

        /** Reads the whole text; answers its fault, NONE if there is none. */
        int readLegs() {
            index = 0;
            legs.clear();
            for (int leg = 0; leg <= SIGNS; leg++) {
                if (!readOneLeg()) {
                    return index;
                }
                if (index >= length) {
                    return NONE;
                }
                if (!readSign(';')) {
                    return index;
                }
            }
            return index;
        }

        private boolean readOneLeg() {
            if (!readSign('c') || !readNumber(0, 359)) {
                return false;
            }
            long course = number * 100;
            if (!readSign('v') || !readNumber(0, MOST_SPEED)) {
                return false;
            }
            long speed = number;
            if (!readSign('m') || !readNumber(1, MOST_MINUTES)) {
                return false;
            }
            legs.add(course, speed, number);
            return true;
        }

        private boolean readSign(char sign) {
            if (signAtIndex() != sign) {
                return false;
            }
            index++;
            return true;
        }

        /** Reads digits as long as the number stays in its range; behind a leading zero there is no other. */
        private boolean readNumber(int least, int most) {
            number = 0;
            if (signAtIndex() == '0') {
                return least == 0 && readSign('0');
            }
            int first = index;
            for (int digits = 0; digits < SIGNS && canTakeDigit(most); digits++) {
                number = number * 10 + (signAtIndex() - '0');
                index++;
            }
            return index > first;
        }

        private boolean canTakeDigit(int most) {
            char sign = signAtIndex();
            return sign >= '0' && sign <= '9' && number * 10 + (sign - '0') <= most;
        }

        /** The sign that is read next; behind the text it is one that no text has. */
        private char signAtIndex() {
            return index >= 0 && index < length && index < signs.length ? signs[index] : (char) 0;
        }
    }
}
