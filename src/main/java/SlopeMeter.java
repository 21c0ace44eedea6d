/**
 * A meter that converts a voltage to counts by slopes. The document ../shared/DOC.md says what each
 * method answers; the comments here name its promises by their numbers.
 */
public final class SlopeMeter {
    public static final int NO_SUCH = -1, BAD_VALUE = -2, BAD_TEXT = -3, TOO_MANY = -4, NOT_POSSIBLE = -5, NONE = -6;
    public static final long GONE = -1000000000000000000L;
    public static final int WINDOW = 0, SLOT = 1, MODE = 2, ZERO = 3, AUTO = 4, RANGE = 5;
    public static final int DUAL = 0, MULTI = 1;

    private static final int MOST_LEVEL = 3000000;
    private static final int MOST_AMPLITUDE = 1000000;
    private static final int LEAST_PERIOD = 4;
    private static final int MOST_PERIOD = 400;
    private static final int MOST_BIAS = 100000;
    private static final int MOST_DRIFT = 1000;
    private static final long MOST_INPUT = 2500000;
    private static final long MOST_OFFSET = 500000;
    private static final long REFERENCE = 1048576;
    private static final long SIXTEENTH = 65536;
    private static final int MOST_READINGS = 10000;
    private static final int KEPT_READINGS = 40;
    private static final int MOST_TICKS = 100000;
    private static final int LAST_TIME = 1000000000;
    private static final int MOST_SIGNS = 60;
    private static final int SLOTS = 2;
    private static final int PLUS_SMALL = 10000000;
    private static final int PLUS_LARGE = 100000000;
    private static final int RIPPLE_COPIES = 8;
    private static final int MOST_SETTLING = 20;
    private static final int[] GAINS = {1, 10, 100, 1000};
    private static final int[] LEAST_SETTINGS = {4, 1, 0, 0, 0, 0};
    private static final int[] MOST_SETTINGS = {400, 50, 1, 10, 1, 3};

    private final State state;
    private final State undo;
    private final State[] saved;
    private final boolean[] isSaved;
    private final Meter trial;
    private final Pad pad;

    /** Promise 1. All rows are made here once, so that no later call makes an object. */
    public SlopeMeter() {
        state = new State();
        undo = new State();
        saved = new State[SLOTS];
        for (int slot = 0; slot < saved.length; slot++) {
            saved[slot] = new State();
        }
        isSaved = new boolean[SLOTS];
        trial = new Meter();
        pad = new Pad();
    }

    // ---- signal and settings

    /** Promise 2. */
    public int setLevel(int level) {
        if (isOutside(level, -MOST_LEVEL, MOST_LEVEL)) {
            return BAD_VALUE;
        }
        state.meter.signal.level = level;
        return state.log.readings;
    }

    /** Promise 3. */
    public int setHum(int amplitude, int period) {
        if (isOutside(amplitude, 0, MOST_AMPLITUDE)
                || isOutside(period, LEAST_PERIOD, MOST_PERIOD) || period % 4 != 0) {
            return BAD_VALUE;
        }
        Signal signal = state.meter.signal;
        int previous = signal.period;
        signal.amplitude = amplitude;
        signal.period = period;
        return previous;
    }

    /** Promise 4. */
    public int setOffset(int bias, int drift) {
        if (isOutside(bias, -MOST_BIAS, MOST_BIAS) || isOutside(drift, -MOST_DRIFT, MOST_DRIFT)) {
            return BAD_VALUE;
        }
        Signal signal = state.meter.signal;
        signal.bias = bias;
        signal.drift = drift;
        return (int) signal.offsetAt(state.meter.time) + PLUS_LARGE;
    }

    /** Promise 5. */
    public int set(int setting, int value) {
        if (isNoSetting(setting)
                || isOutside(value, leastOf(setting), mostOf(setting))) {
            return BAD_VALUE;
        }
        int previous = state.meter.settings.valueOf(setting);
        state.meter.settings.change(setting, value);
        if (setting == ZERO) {
            state.meter.readingsUntilZero = 0;
        }
        return previous;
    }

    /** Promise 6. */
    public int get(int setting) {
        if (isNoSetting(setting)) {
            return BAD_VALUE;
        }
        return state.meter.settings.valueOf(setting);
    }

    /** Promise 7. */
    public long probe(int after, int what) {
        if (isOutside(after, 0, MOST_TICKS) || isOutside(what, 0, 2)) {
            return GONE + BAD_VALUE;
        }
        Signal signal = state.meter.signal;
        int time = state.meter.time + after;
        if (what == 0) {
            return signal.humAt(time);
        }
        if (what == 1) {
            return signal.inputAt(time, gainOf(state.meter.settings.range));
        }
        return signal.offsetAt(time);
    }

    // ---- readings

    /** Promise 8. */
    public long read() {
        if (state.log.readings >= MOST_READINGS) {
            return GONE + TOO_MANY;
        }
        return state.makeReading();
    }

    /** Promise 9. */
    public int zero() {
        state.meter.convertZero();
        return state.meter.zeroCounts + PLUS_SMALL;
    }

    /** Promise 10. */
    public int pass(int ticks) {
        if (isOutside(ticks, 1, MOST_TICKS)) {
            return BAD_VALUE;
        }
        if (!state.meter.canWait(ticks)) {
            return NOT_POSSIBLE;
        }
        state.meter.time += ticks;
        return state.meter.time;
    }

    /** Promise 11. */
    public long log(int reading, int what) {
        if (isOutside(what, 0, Log.NUMBERS - 1)) {
            return GONE + BAD_VALUE;
        }
        if (!state.log.keeps(reading)) {
            return GONE + NONE;
        }
        return state.log.numberOf(reading, what);
    }

    /** Promise 12. */
    public long latest(int what) {
        if (isOutside(what, 0, 6)) {
            return GONE + BAD_VALUE;
        }
        if (!state.meter.conversion.isMade) {
            return GONE + NOT_POSSIBLE;
        }
        return state.meter.conversion.numberOf(what);
    }

    /** Promise 13. */
    public long statistic(int from, int what) {
        if (from < 0 || isOutside(what, 0, 4)) {
            return GONE + BAD_VALUE;
        }
        if (what == 0) {
            return state.log.numberFrom(from);
        }
        if (what == 4) {
            return state.log.sumFrom(from, Log.OVER);
        }
        if (state.log.numberFrom(from) == 0) {
            return GONE + NONE;
        }
        if (what == 1) {
            return state.log.leastFrom(from);
        }
        return what == 2 ? state.log.greatestFrom(from) : state.log.meanFrom(from);
    }

    // ---- what-ifs: readings on the trial meter, which is a copy of the meter at each start

    /** Promise 14. */
    public long wouldRead(int level) {
        if (isOutside(level, -MOST_LEVEL, MOST_LEVEL)) {
            return GONE + BAD_VALUE;
        }
        return valueWithLevel(level);
    }

    /** Promise 15. */
    public long ripple(int n) {
        if (isOutside(n, 1, 16)) {
            return GONE + BAD_VALUE;
        }
        return rippleWith(state.meter.settings.window, n);
    }

    /** Promise 16. */
    public int bestWindow(int first, int step, int count) {
        if (isOutside(first, leastOf(WINDOW), mostOf(WINDOW)) || isOutside(step, 1, 100)
                || isOutside(count, 1, 12) || first + (count - 1) * step > mostOf(WINDOW)) {
            return BAD_VALUE;
        }
        int best = first;
        long leastRipple = rippleWith(first, RIPPLE_COPIES);
        for (int i = 1; i < count; i++) {
            int window = first + i * step;
            long ripple = rippleWith(window, RIPPLE_COPIES);
            if (ripple < leastRipple) {
                leastRipple = ripple;
                best = window;
            }
        }
        return best;
    }

    /** Promise 17. */
    public int order(int first, int step, int count, int what) {
        if (isOutside(first, -MOST_LEVEL, MOST_LEVEL) || isOutside(step, 1, 100000)
                || isOutside(count, 2, 40) || first + (count - 1) * step > MOST_LEVEL
                || isOutside(what, 0, 1)) {
            return BAD_VALUE;
        }
        int found = 0;
        long before = valueWithLevel(first);
        for (int i = 1; i < count; i++) {
            long value = valueWithLevel(first + i * step);
            if (what == 0 ? value < before : value == before) {
                found++;
            }
            before = value;
        }
        return found;
    }

    /** Promise 18. */
    public long levelFor(int value) {
        if (isOutside(value, -10000000, 10000000)) {
            return GONE + BAD_VALUE;
        }
        if (valueWithLevel(MOST_LEVEL) < value) {
            return GONE + NONE;
        }
        int low = -MOST_LEVEL;
        int high = MOST_LEVEL;
        // An interval of int numbers is a single one after at most 32 halvings.
        for (int halvings = 0; low < high && halvings < 32; halvings++) {
            int middle = Math.floorDiv(low + high, 2);
            if (valueWithLevel(middle) >= value) {
                high = middle;
            } else {
                low = middle + 1;
            }
        }
        return low;
    }

    /** Promise 19. */
    public int settle() {
        trial.copyFrom(state.meter);
        for (int before = 0; before <= MOST_SETTLING; before++) {
            int range = trial.settings.range;
            trial.makeReading();
            if (trial.settings.range == range) {
                return before;
            }
        }
        return NONE;
    }

    // ---- texts

    /** Promise 20. */
    public int say(int character) {
        if (isOutside(character, 33, 126)) {
            return BAD_VALUE;
        }
        return pad.append((char) character) ? pad.length : TOO_MANY;
    }

    /** Promise 21. */
    public int wipe() {
        int length = pad.length;
        pad.length = 0;
        return length;
    }

    /** Promise 22. */
    public int fault() {
        return pad.findFault();
    }

    /** Promise 23. A program that turns out not to be possible in its midst is undone. */
    public int run() {
        if (pad.findFault() != NONE) {
            return BAD_TEXT;
        }
        int readings = pad.countReadings();
        if (state.log.readings + readings > MOST_READINGS) {
            return TOO_MANY;
        }
        undo.copyFrom(state);
        if (!carryOutPad()) {
            state.copyFrom(undo);
            return NOT_POSSIBLE;
        }
        pad.length = 0;
        return readings;
    }

    // ---- saving

    /** Promise 24. */
    public int count(int what) {
        switch (what) {
            case 0:
                return state.meter.time;
            case 1:
                return state.log.readings;
            case 2:
                return state.meter.signal.level + PLUS_SMALL;
            case 3:
                return state.meter.zeroCounts + PLUS_SMALL;
            case 4:
                return state.meter.settings.zeroEvery == 0 ? NONE : state.meter.readingsUntilZero;
            case 5:
                return pad.length;
            default:
                return BAD_VALUE;
        }
    }

    /** Promise 25. */
    public int save(int slot) {
        if (isNoSlot(slot)) {
            return BAD_VALUE;
        }
        saved[slot].copyFrom(state);
        isSaved[slot] = true;
        return state.log.readings;
    }

    /** Promise 26. */
    public int restore(int slot) {
        if (isNoSlot(slot)) {
            return BAD_VALUE;
        }
        if (!isSaved[slot]) {
            return NOT_POSSIBLE;
        }
        state.copyFrom(saved[slot]);
        return state.log.readings;
    }

    // ---- what the methods above share

    private static boolean isOutside(int value, int least, int most) {
        return value < least || value > most;
    }

    private static boolean isNoSetting(int setting) {
        return setting < 0 || setting >= LEAST_SETTINGS.length || setting >= MOST_SETTINGS.length;
    }

    private static int leastOf(int setting) {
        return isNoSetting(setting) ? 0 : LEAST_SETTINGS[setting];
    }

    private static int mostOf(int setting) {
        return isNoSetting(setting) ? 0 : MOST_SETTINGS[setting];
    }

    private boolean isNoSlot(int slot) {
        return slot < 0 || slot >= saved.length || slot >= isSaved.length || saved[slot] == null;
    }

    private static int gainOf(int range) {
        return range < 0 || range >= GAINS.length ? 1 : GAINS[range];
    }

    private static long limited(long value, long most) {
        if (value > most) {
            return most;
        }
        return value < -most ? -most : value;
    }

    private long valueWithLevel(int level) {
        trial.copyFrom(state.meter);
        trial.signal.level = level;
        return trial.makeReading();
    }

    private long rippleWith(int window, int n) {
        long least = 0;
        long greatest = 0;
        for (int k = 0; k < n; k++) {
            trial.copyFrom(state.meter);
            trial.settings.window = window;
            trial.time += k * trial.signal.period / n;
            long value = trial.makeReading();
            least = k == 0 ? value : Math.min(least, value);
            greatest = k == 0 ? value : Math.max(greatest, value);
        }
        return greatest - least;
    }

    /** Tells false, in the midst of the program, if a waiting would end behind the last time. */
    private boolean carryOutPad() {
        for (int step = 0; step < pad.steps; step++) {
            int number = pad.numberOf(step);
            switch (pad.kindOf(step)) {
                case 'r':
                    for (int reading = 0; reading < number; reading++) {
                        state.makeReading();
                    }
                    break;
                case 'z':
                    state.meter.convertZero();
                    break;
                case 'w':
                    if (!state.meter.canWait(number)) {
                        return false;
                    }
                    state.meter.time += number;
                    break;
                case 'l':
                    state.meter.signal.level = number;
                    break;
                case 'g':
                    state.meter.settings.range = number;
                    break;
                default:
                    break;
            }
        }
        return true;
    }

    /** The signal, and the offset that the amplifier adds to it. */
    private static final class Signal {
        int level;
        int amplitude;
        int period = 100;
        int bias;
        int drift;

        void copyFrom(Signal other) {
            level = other.level;
            amplitude = other.amplitude;
            period = other.period;
            bias = other.bias;
            drift = other.drift;
        }

        int humAt(int time) {
            int quarter = period / 4;
            if (quarter <= 0) {
                return 0;
            }
            int u = time % period;
            if (u < quarter) {
                return amplitude * u / quarter;
            }
            if (u < 3 * quarter) {
                return amplitude * (2 * quarter - u) / quarter;
            }
            return amplitude * (u - 4 * quarter) / quarter;
        }

        long inputAt(int time, int gain) {
            // With the greatest gain, level and hum go beyond an int.
            return limited((long) (level + humAt(time)) * gain, MOST_INPUT);
        }

        long offsetAt(int time) {
            return limited(bias + (long) drift * time / 1000, MOST_OFFSET);
        }
    }

    /** The six settings. */
    private static final class Settings {
        int window = 100;
        int slotTicks = 5;
        int mode = DUAL;
        int zeroEvery;
        int auto;
        int range;

        void copyFrom(Settings other) {
            window = other.window;
            slotTicks = other.slotTicks;
            mode = other.mode;
            zeroEvery = other.zeroEvery;
            auto = other.auto;
            range = other.range;
        }

        int valueOf(int setting) {
            switch (setting) {
                case WINDOW:
                    return window;
                case SLOT:
                    return slotTicks;
                case MODE:
                    return mode;
                case ZERO:
                    return zeroEvery;
                case AUTO:
                    return auto;
                default:
                    return range;
            }
        }

        void change(int setting, int value) {
            switch (setting) {
                case WINDOW:
                    window = value;
                    break;
                case SLOT:
                    slotTicks = value;
                    break;
                case MODE:
                    mode = value;
                    break;
                case ZERO:
                    zeroEvery = value;
                    break;
                case AUTO:
                    auto = value;
                    break;
                default:
                    range = value;
                    break;
            }
        }

        boolean beginsSlot(int tick) {
            return mode == MULTI && slotTicks > 0 && tick % slotTicks == 0;
        }
    }

    /** One conversion: its integral while it goes on, and its numbers when it has ended. */
    private static final class Conversion {
        boolean isMade;
        boolean isOver;
        int counts;
        int downTicks;
        int fineTicks;
        int subtractedTicks;
        int addedTicks;
        long peak;
        long integral;

        void copyFrom(Conversion other) {
            isMade = other.isMade;
            isOver = other.isOver;
            counts = other.counts;
            downTicks = other.downTicks;
            fineTicks = other.fineTicks;
            subtractedTicks = other.subtractedTicks;
            addedTicks = other.addedTicks;
            peak = other.peak;
            integral = other.integral;
        }

        void begin() {
            isMade = true;
            downTicks = 0;
            fineTicks = 0;
            subtractedTicks = 0;
            addedTicks = 0;
            peak = 0;
            integral = 0;
        }

        int sign() {
            if (integral > 0) {
                return 1;
            }
            return integral < 0 ? -1 : 0;
        }

        void tick(long change) {
            integral += change;
            long size = integral < 0 ? -integral : integral;
            if (size > peak) {
                peak = size;
            }
        }

        /** A tick of the run-up with the direction 1 (reference added), -1 (subtracted) or 0. */
        void runUp(long voltage, int direction) {
            if (direction > 0) {
                addedTicks++;
            } else if (direction < 0) {
                subtractedTicks++;
            }
            tick(voltage + direction * REFERENCE);
        }

        /** The phases 2 and 3, which take the integral of the run-up back to 0 and count the way. */
        void runDown(int window) {
            int upSign = sign();
            while (upSign != 0 && sign() == upSign && downTicks < 3 * window) {
                tick(-upSign * REFERENCE);
                downTicks++;
            }
            isOver = upSign != 0 && sign() == upSign;
            // A tick of phase 2 goes less than a reference beyond 0, so that 16 ticks lead back.
            while (upSign != 0 && sign() == -upSign && fineTicks < 16) {
                tick(upSign * SIXTEENTH);
                fineTicks++;
            }
            counts = 16 * (subtractedTicks - addedTicks) + upSign * (16 * downTicks - fineTicks);
        }

        long numberOf(int what) {
            switch (what) {
                case 0:
                    return counts;
                case 1:
                    return downTicks;
                case 2:
                    return fineTicks;
                case 3:
                    return subtractedTicks;
                case 4:
                    return addedTicks;
                case 5:
                    return peak;
                default:
                    return integral;
            }
        }
    }

    /** The meter without its log: what a what-if needs a copy of. */
    private static final class Meter {
        final Signal signal = new Signal();
        final Settings settings = new Settings();
        final Conversion conversion = new Conversion();
        int time;
        int zeroCounts;
        int readingsUntilZero;
        // about the latest reading, for the log
        int readingRange;
        int readingBegin;
        long readingNet;

        void copyFrom(Meter other) {
            signal.copyFrom(other.signal);
            settings.copyFrom(other.settings);
            conversion.copyFrom(other.conversion);
            time = other.time;
            zeroCounts = other.zeroCounts;
            readingsUntilZero = other.readingsUntilZero;
            readingRange = other.readingRange;
            readingBegin = other.readingBegin;
            readingNet = other.readingNet;
        }

        boolean canWait(int ticks) {
            return time <= LAST_TIME - ticks;
        }

        long makeReading() {
            if (settings.zeroEvery > 0) {
                if (readingsUntilZero == 0) {
                    convertZero();
                    readingsUntilZero = settings.zeroEvery;
                }
                readingsUntilZero--;
            }
            int gain = gainOf(settings.range);
            readingRange = settings.range;
            readingBegin = time;
            convert(gain);
            readingNet = (long) conversion.counts - zeroCounts;
            long divisor = (long) settings.window * gain;
            long value = divisor <= 0 ? 0 : readingNet * SIXTEENTH / divisor;
            if (settings.auto == 1) {
                switchRange();
            }
            return value;
        }

        /** With the gain 0 the input is 0 in all ticks, whatever the signal is. */
        void convertZero() {
            convert(0);
            zeroCounts = conversion.counts;
        }

        private void convert(int gain) {
            conversion.begin();
            int direction = 0;
            for (int tick = 0; tick < settings.window; tick++) {
                if (settings.beginsSlot(tick)) {
                    direction = conversion.sign() > 0 ? -1 : 1;
                }
                conversion.runUp(signal.inputAt(time, gain) + signal.offsetAt(time), direction);
                time++;
            }
            conversion.runDown(settings.window);
            time += conversion.downTicks + conversion.fineTicks;
        }

        private void switchRange() {
            long size = Math.abs(readingNet);
            int full = 16 * settings.window;
            if (conversion.isOver || size > full) {
                settings.range = Math.max(settings.range - 1, 0);
            } else if (size < full / 12) {
                settings.range = Math.min(settings.range + 1, GAINS.length - 1);
            }
        }
    }

    /** The number of all readings, and the numbers of the latest ones, which share one row in turn. */
    private static final class Log {
        static final int NUMBERS = 7;
        static final int VALUE = 0, NET = 1, USED_RANGE = 2, OVER = 3, BEGIN = 4, END = 5, SUBTRACTED = 6;

        final long[] row = new long[KEPT_READINGS * NUMBERS];
        int readings;

        void copyFrom(Log other) {
            readings = other.readings;
            System.arraycopy(other.row, 0, row, 0, Math.min(row.length, other.row.length));
        }

        private static int placeOf(int reading, int what) {
            return Math.floorMod(reading, KEPT_READINGS) * NUMBERS + what;
        }

        private void note(int what, long number) {
            int place = placeOf(readings, what);
            if (place >= 0 && place < row.length) {
                row[place] = number;
            }
        }

        void add(long value, Meter meter) {
            note(VALUE, value);
            note(NET, meter.readingNet);
            note(USED_RANGE, meter.readingRange);
            note(OVER, meter.conversion.isOver ? 1 : 0);
            note(BEGIN, meter.readingBegin);
            note(END, meter.time);
            note(SUBTRACTED, meter.zeroCounts);
            readings++;
        }

        boolean keeps(int reading) {
            return reading >= firstFrom(0) && reading < readings;
        }

        long numberOf(int reading, int what) {
            int place = placeOf(reading, what);
            return place < 0 || place >= row.length ? 0 : row[place];
        }

        private int firstFrom(int from) {
            return Math.max(from, Math.max(0, readings - KEPT_READINGS));
        }

        int numberFrom(int from) {
            return Math.max(0, readings - firstFrom(from));
        }

        long sumFrom(int from, int what) {
            long sum = 0;
            for (int reading = firstFrom(from); reading < readings; reading++) {
                sum += numberOf(reading, what);
            }
            return sum;
        }

        long meanFrom(int from) {
            int number = numberFrom(from);
            return number <= 0 ? 0 : sumFrom(from, VALUE) / number;
        }

        long leastFrom(int from) {
            long least = numberOf(firstFrom(from), VALUE);
            for (int reading = firstFrom(from); reading < readings; reading++) {
                least = Math.min(least, numberOf(reading, VALUE));
            }
            return least;
        }

        long greatestFrom(int from) {
            long greatest = numberOf(firstFrom(from), VALUE);
            for (int reading = firstFrom(from); reading < readings; reading++) {
                greatest = Math.max(greatest, numberOf(reading, VALUE));
            }
            return greatest;
        }
    }

    /** The meter with its log: everything that is saved and restored. */
    private static final class State {
        final Meter meter = new Meter();
        final Log log = new Log();

        void copyFrom(State other) {
            meter.copyFrom(other.meter);
            log.copyFrom(other.log);
        }

        long makeReading() {
            long value = meter.makeReading();
            log.add(value, meter);
            return value;
        }
    }

    /** The pad, and the steps of the program that was found on it when its fault was sought last. */
    private static final class Pad {
        private static final char END = 0;

        final char[] signs = new char[MOST_SIGNS];
        int length;
        final int[] kinds = new int[MOST_SIGNS];
        final int[] numbers = new int[MOST_SIGNS];
        int steps;
        private int at;
        private int number;

        boolean append(char sign) {
            if (length < 0 || length >= signs.length) {
                return false;
            }
            signs[length] = sign;
            length++;
            return true;
        }

        int kindOf(int step) {
            return step < 0 || step >= kinds.length ? END : kinds[step];
        }

        int numberOf(int step) {
            return step < 0 || step >= numbers.length ? 0 : numbers[step];
        }

        int countReadings() {
            int readings = 0;
            for (int step = 0; step < steps; step++) {
                if (kindOf(step) == 'r') {
                    readings += numberOf(step);
                }
            }
            return readings;
        }

        /** A fault is always where the reading of the text stopped, which can be the text's end. */
        int findFault() {
            at = 0;
            steps = 0;
            for (int step = 0; step <= MOST_SIGNS; step++) {
                if (!readStep()) {
                    return at;
                }
                if (at >= length) {
                    return NONE;
                }
                if (signHere() != ',') {
                    return at;
                }
                at++;
            }
            return at;
        }

        private char signHere() {
            return at < 0 || at >= length || at >= signs.length ? END : signs[at];
        }

        private boolean isDigitHere() {
            return signHere() >= '0' && signHere() <= '9';
        }

        private boolean readStep() {
            char kind = signHere();
            if (kind != 'r' && kind != 'z' && kind != 'w' && kind != 'l' && kind != 'g') {
                return false;
            }
            at++;
            if (!readArgument(kind)) {
                return false;
            }
            if (steps < kinds.length && steps < numbers.length) {
                kinds[steps] = kind;
                numbers[steps] = number;
                steps++;
            }
            return true;
        }

        private boolean readArgument(char kind) {
            if (kind == 'w') {
                return readNumber(1, 9999);
            }
            if (kind == 'l') {
                return readLevel();
            }
            if (kind == 'g') {
                return readRange();
            }
            number = 1;
            return kind == 'z' || !isDigitHere() || readNumber(1, 99);
        }

        private boolean readLevel() {
            boolean isNegative = signHere() == '-';
            if (isNegative) {
                at++;
            }
            boolean isRead = readNumber(0, MOST_LEVEL);
            if (isNegative) {
                number = -number;
            }
            return isRead;
        }

        private boolean readRange() {
            number = signHere() - '0';
            if (number < 0 || number >= GAINS.length) {
                return false;
            }
            at++;
            return true;
        }

        /** Stops at the first digit with which no number from least to most can go on. */
        private boolean readNumber(int least, int most) {
            number = 0;
            int first = at;
            while (isDigitHere() && at < length) {
                int longer = number * 10 + (signHere() - '0');
                boolean hasLeadingZero = at > first && number == 0;
                if (hasLeadingZero || longer < least || longer > most) {
                    return false;
                }
                number = longer;
                at++;
            }
            return at > first;
        }
    }
}
