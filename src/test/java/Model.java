import java.util.ArrayList;
import java.util.List;
import java.util.regex.Pattern;

/**
 * A second reading of the document, to hold the class against: it computes the phases 2 and 3 at once
 * instead of tick by tick, knows the due zero conversions by their numbers, keeps all readings, copies
 * itself whole for each what-if, and finds faults by trying which texts can go on.
 */
final class Model {
    private static final long GONE = -1000000000000000000L;
    private static final int BAD_VALUE = -2, BAD_TEXT = -3, TOO_MANY = -4, NOT_POSSIBLE = -5, NONE = -6;
    private static final int[] LEAST = {4, 1, 0, 0, 0, 0};
    private static final int[] MOST = {400, 50, 1, 10, 1, 3};
    private static final String LEVEL = "(0|[1-9][0-9]{0,5}|[12][0-9]{6}|3000000)";
    private static final String STEP = "(r([1-9][0-9]?)?|z|w[1-9][0-9]{0,3}|l-?" + LEVEL + "|g[0-3])";
    private static final Pattern PROGRAM = Pattern.compile(STEP + "(," + STEP + ")*");

    private long level;
    private long amplitude;
    private long period = 100;
    private long bias;
    private long drift;
    private long[] settings = {100, 5, 0, 0, 0, 0};
    private long time;
    private long zero;
    private long firstForZero;
    private List<long[]> readings = new ArrayList<>();
    private long[] latest;
    private String pad = "";
    private Model[] slots = new Model[2];

    private Model copy() {
        Model copy = new Model();
        copy.take(this);
        return copy;
    }

    private void take(Model other) {
        level = other.level;
        amplitude = other.amplitude;
        period = other.period;
        bias = other.bias;
        drift = other.drift;
        settings = other.settings.clone();
        time = other.time;
        zero = other.zero;
        firstForZero = other.firstForZero;
        readings = new ArrayList<>(other.readings);
        latest = other.latest;
    }

    private static boolean in(long value, long least, long most) {
        return least <= value && value <= most;
    }

    private static long limit(long value, long most) {
        return value > most ? most : value < -most ? -most : value;
    }

    private long gain() {
        long gain = 1;
        for (int i = 0; i < settings[5]; i++) {
            gain *= 10;
        }
        return gain;
    }

    private long hum(long at) {
        long u = at % period;
        long q = period / 4;
        if (u < q) {
            return amplitude * u / q;
        }
        return u <= 3 * q - 1 ? amplitude * (2 * q - u) / q : amplitude * (u - 4 * q) / q;
    }

    private long input(long at) {
        return limit((level + hum(at)) * gain(), 2500000);
    }

    private long offset(long at) {
        return limit(bias + drift * at / 1000, 500000);
    }

    /** Counts, run-down, fine ticks, subtracted, added, peak, rest, over. */
    private long[] convert(boolean ofZero) {
        long integral = 0;
        long peak = 0;
        long[] directions = new long[3];
        long slot = settings[2] == 0 ? settings[0] : settings[1];
        for (long begin = 0; begin < settings[0]; begin += slot) {
            int direction = settings[2] == 0 ? 0 : integral > 0 ? -1 : 1;
            long end = Math.min(begin + slot, settings[0]);
            for (long tick = begin; tick < end; tick++, time++) {
                integral += (ofZero ? 0 : input(time)) + offset(time) + direction * 1048576L;
                directions[direction + 1]++;
                peak = Math.max(peak, Math.abs(integral));
            }
        }
        long sign = Long.signum(integral);
        long down = Math.min((Math.abs(integral) + 1048575) / 1048576, 3 * settings[0]);
        long behind = integral - sign * down * 1048576;
        boolean over = sign != 0 && Long.signum(behind) == sign;
        long fine = over ? 0 : (Math.abs(behind) + 65535) / 65536;
        long rest = behind + sign * fine * 65536;
        peak = Math.max(peak, Math.max(Math.abs(behind), Math.abs(rest)));
        time += down + fine;
        long counts = 16 * (directions[0] - directions[2]) + sign * (16 * down - fine);
        latest = new long[] {counts, down, fine, directions[0], directions[2], peak, rest, over ? 1 : 0};
        return latest;
    }

    private void convertZero() {
        zero = convert(true)[0];
    }

    private long reading() {
        if (settings[3] != 0 && (readings.size() - firstForZero) % settings[3] == 0) {
            convertZero();
        }
        long begin = time;
        long[] conversion = convert(false);
        long net = conversion[0] - zero;
        long value = net * 65536 / (settings[0] * gain());
        readings.add(new long[] {value, net, settings[5], conversion[7], begin, time, zero});
        if (settings[4] == 1) {
            boolean isTooMuch = conversion[7] == 1 || Math.abs(net) > 16 * settings[0];
            boolean isTooLittle = !isTooMuch && Math.abs(net) < 16 * settings[0] / 12;
            settings[5] += isTooMuch && settings[5] > 0 ? -1 : isTooLittle && settings[5] < 3 ? 1 : 0;
        }
        return value;
    }

    long setLevel(int value) {
        if (!in(value, -3000000, 3000000)) {
            return BAD_VALUE;
        }
        level = value;
        return readings.size();
    }

    long setHum(int newAmplitude, int newPeriod) {
        if (!in(newAmplitude, 0, 1000000) || !in(newPeriod, 4, 400) || newPeriod % 4 != 0) {
            return BAD_VALUE;
        }
        long previous = period;
        amplitude = newAmplitude;
        period = newPeriod;
        return previous;
    }

    long setOffset(int newBias, int newDrift) {
        if (!in(newBias, -100000, 100000) || !in(newDrift, -1000, 1000)) {
            return BAD_VALUE;
        }
        bias = newBias;
        drift = newDrift;
        return offset(time) + 100000000;
    }

    long set(int setting, int value) {
        if (!in(setting, 0, 5) || !in(value, LEAST[setting], MOST[setting])) {
            return BAD_VALUE;
        }
        long previous = settings[setting];
        settings[setting] = value;
        if (setting == 3) {
            firstForZero = readings.size();
        }
        return previous;
    }

    long get(int setting) {
        return in(setting, 0, 5) ? settings[setting] : BAD_VALUE;
    }

    long probe(int after, int what) {
        if (!in(after, 0, 100000) || !in(what, 0, 2)) {
            return GONE + BAD_VALUE;
        }
        return what == 0 ? hum(time + after) : what == 1 ? input(time + after) : offset(time + after);
    }

    long read() {
        return readings.size() >= 10000 ? GONE + TOO_MANY : reading();
    }

    long zero() {
        convertZero();
        return zero + 10000000;
    }

    long pass(int ticks) {
        if (!in(ticks, 1, 100000)) {
            return BAD_VALUE;
        }
        if (time + ticks > 1000000000) {
            return NOT_POSSIBLE;
        }
        time += ticks;
        return time;
    }

    long log(int reading, int what) {
        if (!in(what, 0, 6)) {
            return GONE + BAD_VALUE;
        }
        if (!in(reading, Math.max(0, readings.size() - 40), readings.size() - 1)) {
            return GONE + NONE;
        }
        return readings.get(reading)[what];
    }

    long latest(int what) {
        if (!in(what, 0, 6)) {
            return GONE + BAD_VALUE;
        }
        return latest == null ? GONE + NOT_POSSIBLE : latest[what];
    }

    long statistic(int from, int what) {
        if (from < 0 || !in(what, 0, 4)) {
            return GONE + BAD_VALUE;
        }
        int begin = Math.max(0, readings.size() - 40);
        List<long[]> some = new ArrayList<>();
        for (int i = begin; i < readings.size(); i++) {
            if (i >= from) {
                some.add(readings.get(i));
            }
        }
        if (what == 0) {
            return some.size();
        }
        if (what == 4) {
            return some.stream().filter(r -> r[3] == 1).count();
        }
        if (some.isEmpty()) {
            return GONE + NONE;
        }
        if (what == 1) {
            return some.stream().mapToLong(r -> r[0]).min().getAsLong();
        }
        if (what == 2) {
            return some.stream().mapToLong(r -> r[0]).max().getAsLong();
        }
        return some.stream().mapToLong(r -> r[0]).sum() / some.size();
    }

    private long valueWith(long newLevel) {
        Model copy = copy();
        copy.level = newLevel;
        return copy.reading();
    }

    long wouldRead(int newLevel) {
        return in(newLevel, -3000000, 3000000) ? valueWith(newLevel) : GONE + BAD_VALUE;
    }

    long ripple(int n) {
        if (!in(n, 1, 16)) {
            return GONE + BAD_VALUE;
        }
        List<Long> values = new ArrayList<>();
        for (int k = 0; k < n; k++) {
            Model copy = copy();
            copy.time += k * period / n;
            values.add(copy.reading());
        }
        values.sort(null);
        return values.get(n - 1) - values.get(0);
    }

    long bestWindow(int first, int step, int count) {
        if (!in(first, 4, 400) || !in(step, 1, 100) || !in(count, 1, 12) || first + (count - 1L) * step > 400) {
            return BAD_VALUE;
        }
        int best = 0;
        long least = Long.MAX_VALUE;
        for (int window = first + (count - 1) * step; window >= first; window -= step) {
            Model copy = copy();
            copy.settings[0] = window;
            long ripple = copy.ripple(8);
            if (ripple <= least) {
                least = ripple;
                best = window;
            }
        }
        return best;
    }

    long order(int first, int step, int count, int what) {
        if (!in(first, -3000000, 3000000) || !in(step, 1, 100000) || !in(count, 2, 40)
                || first + (count - 1L) * step > 3000000 || !in(what, 0, 1)) {
            return BAD_VALUE;
        }
        int found = 0;
        for (int i = 1; i < count; i++) {
            int compared = Long.compare(valueWith(first + i * step), valueWith(first + (i - 1) * step));
            found += what == 0 && compared < 0 || what == 1 && compared == 0 ? 1 : 0;
        }
        return found;
    }

    long levelFor(int value) {
        if (!in(value, -10000000, 10000000)) {
            return GONE + BAD_VALUE;
        }
        if (valueWith(3000000) < value) {
            return GONE + NONE;
        }
        long low = -3000000;
        long high = 3000000;
        while (low < high) {
            long middle = (low + high) >> 1;
            if (valueWith(middle) >= value) {
                high = middle;
            } else {
                low = middle + 1;
            }
        }
        return low;
    }

    long settle() {
        Model copy = copy();
        for (int before = 0; before <= 20; before++) {
            long range = copy.settings[5];
            copy.reading();
            if (copy.settings[5] == range) {
                return before;
            }
        }
        return NONE;
    }

    long say(int character) {
        if (!in(character, 33, 126)) {
            return BAD_VALUE;
        }
        if (pad.length() == 60) {
            return TOO_MANY;
        }
        pad += (char) character;
        return pad.length();
    }

    long wipe() {
        int length = pad.length();
        pad = "";
        return length;
    }

    private static boolean isCorrect(String text) {
        return PROGRAM.matcher(text).matches();
    }

    /** A text that can go on is correct, or is so behind a whole step, or behind one digit more. */
    private static boolean canGoOn(String text) {
        return isCorrect(text) || isCorrect(text + "z") || isCorrect(text + "1");
    }

    long fault() {
        if (isCorrect(pad)) {
            return NONE;
        }
        int sound = 0;
        while (sound < pad.length() && canGoOn(pad.substring(0, sound + 1))) {
            sound++;
        }
        return sound;
    }

    private static int number(String step, int otherwise) {
        return step.length() == 1 ? otherwise : Integer.parseInt(step.substring(1));
    }

    long run() {
        if (!isCorrect(pad)) {
            return BAD_TEXT;
        }
        Model copy = copy();
        boolean isLate = false;
        for (String step : pad.split(",")) {
            if (step.charAt(0) == 'r') {
                for (int i = 0; i < number(step, 1); i++) {
                    copy.reading();
                }
            } else if (step.charAt(0) == 'z') {
                copy.convertZero();
            } else if (step.charAt(0) == 'w') {
                copy.time += number(step, 0);
                isLate |= copy.time > 1000000000;
            } else if (step.charAt(0) == 'l') {
                copy.level = number(step, 0);
            } else {
                copy.settings[5] = number(step, 0);
            }
        }
        if (copy.readings.size() > 10000) {
            return TOO_MANY;
        }
        if (isLate) {
            return NOT_POSSIBLE;
        }
        int made = copy.readings.size() - readings.size();
        take(copy);
        pad = "";
        return made;
    }

    long count(int what) {
        if (!in(what, 0, 5)) {
            return BAD_VALUE;
        }
        long untilZero = NONE;
        if (settings[3] != 0) {
            untilZero = (settings[3] - (readings.size() - firstForZero) % settings[3]) % settings[3];
        }
        return new long[] {time, readings.size(), level + 10000000, zero + 10000000, untilZero, pad.length()}[what];
    }

    long save(int slot) {
        if (!in(slot, 0, 1)) {
            return BAD_VALUE;
        }
        slots[slot] = copy();
        return readings.size();
    }

    long restore(int slot) {
        if (!in(slot, 0, 1)) {
            return BAD_VALUE;
        }
        if (slots[slot] == null) {
            return NOT_POSSIBLE;
        }
        take(slots[slot]);
        return readings.size();
    }
}
