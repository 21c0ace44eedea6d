/** The boundary cases of promises 1 to 7: each test names the sentence of the document that it holds. */
public final class SignalEdgesTest {
    private static final Checks CHECKS = new Checks("SignalEdgesTest");
    private static final int BAD = SlopeMeter.BAD_VALUE;

    public static void main(String[] args) {
        newMeter();
        objectsAreTheirOwn();
        levelEnds();
        levelTellsReadings();
        amplitudeEnds();
        periodEnds();
        humPieces();
        humTruncates();
        humWrapsAround();
        humFollowsTheTime();
        inputEnds();
        inputIsLimitedBehindTheGain();
        biasEnds();
        driftEnds();
        offsetEnds();
        offsetTruncates();
        settingEnds();
        settingNumbers();
        zeroCountsFromTheSetting();
        probeEnds();
        probeWhat();
        CHECKS.finish();
    }

    /** "Creates a meter at the time 0 without readings", with the initial values of the description. */
    private static void newMeter() {
        SlopeMeter x = new SlopeMeter();
        int[] counts = {0, 0, 10000000, 10000000, SlopeMeter.NONE, 0};
        int[] settings = {100, 5, 0, 0, 0, 0};
        for (int what = 0; what < 6; what++) {
            CHECKS.due("new: count(" + what + ")", x.count(what), counts[what]);
            CHECKS.due("new: get(" + what + ")", x.get(what), settings[what]);
        }
        for (int what = 0; what < 3; what++) {
            for (int after : new int[] {0, 1, 25, 75, 100000}) {
                CHECKS.due("new: probe(" + after + ", " + what + ")", x.probe(after, what), 0);
            }
        }
        for (int what = 0; what < 7; what++) {
            CHECKS.due("new: log(0, " + what + ")", x.log(0, what), Checks.gone(SlopeMeter.NONE));
            CHECKS.due("new: latest(" + what + ")", x.latest(what), Checks.gone(SlopeMeter.NOT_POSSIBLE));
        }
        CHECKS.due("new: wipe()", x.wipe(), 0);
        CHECKS.due("new: setHum(0, 4)", x.setHum(0, 4), 100);
        CHECKS.due("new: setOffset(0, 0)", x.setOffset(0, 0), 100000000);
        for (int slot = 0; slot < 2; slot++) {
            CHECKS.due("new: restore(" + slot + ")", x.restore(slot), SlopeMeter.NOT_POSSIBLE);
        }
    }

    private static void objectsAreTheirOwn() {
        SlopeMeter x = new SlopeMeter();
        SlopeMeter busy = States.busy();
        CHECKS.due("a new meter beside a busy one", States.seen(x), States.seen(new SlopeMeter()));
        CHECKS.due("its slot", x.restore(1), SlopeMeter.NOT_POSSIBLE);
        x.setLevel(9);
        x.read();
        x.save(0);
        CHECKS.due("the busy one beside", States.future(busy), States.future(States.busy()));
    }

    /** "level: -3000000 to 3000000". */
    private static void levelEnds() {
        SlopeMeter x = new SlopeMeter();
        int[] right = {-3000000, -2999999, -1, 0, 1, 2999999, 3000000};
        int[] wrong = {-3000001, 3000001, Integer.MIN_VALUE, Integer.MIN_VALUE + 1, Integer.MAX_VALUE};
        for (int level : right) {
            CHECKS.due("setLevel(" + level + ")", x.setLevel(level), 0);
            CHECKS.due("level " + level, x.count(2), 10000000 + level);
            for (int refused : wrong) {
                CHECKS.due("setLevel(" + refused + ")", x.setLevel(refused), BAD);
                CHECKS.due("level kept", x.count(2), 10000000 + level);
            }
        }
    }

    /** "Returns the number of readings so far": zero conversions and what-ifs are none. */
    private static void levelTellsReadings() {
        SlopeMeter x = States.meter(4, 0);
        x.zero();
        x.wouldRead(5);
        x.settle();
        CHECKS.due("setLevel(1) without readings", x.setLevel(1), 0);
        x.read();
        CHECKS.due("setLevel(2) after one", x.setLevel(2), 1);
        Checks.say(x, "r99,z");
        x.run();
        CHECKS.due("setLevel(3) after a hundred", x.setLevel(3), 100);
    }

    /** "amplitude: 0 to 1000000". */
    private static void amplitudeEnds() {
        SlopeMeter x = new SlopeMeter();
        x.setHum(0, 4);
        for (int amplitude : new int[] {0, 1, 999999, 1000000}) {
            CHECKS.due("setHum(" + amplitude + ", 4)", x.setHum(amplitude, 4), 4);
            CHECKS.due("amplitude " + amplitude, x.probe(1, 0), amplitude);
            for (int refused : new int[] {-1, 1000001, Integer.MIN_VALUE, Integer.MAX_VALUE}) {
                CHECKS.due("setHum(" + refused + ", 8)", x.setHum(refused, 8), BAD);
                CHECKS.due("amplitude kept", x.probe(1, 0), amplitude);
                CHECKS.due("period kept", x.probe(3, 0), -amplitude);
            }
        }
    }

    /** "period: 4 to 400, a multiple of 4", and "Returns the previous period". */
    private static void periodEnds() {
        SlopeMeter x = new SlopeMeter();
        int previous = 100;
        for (int period = -12; period <= 412; period++) {
            boolean isRight = period >= 4 && period <= 400 && period % 4 == 0;
            CHECKS.due("setHum(5, " + period + ")", x.setHum(5, period), isRight ? previous : BAD);
            previous = isRight ? period : previous;
        }
        CHECKS.due("the last period", x.setHum(6, 4), 400);
        for (int period : new int[] {Integer.MIN_VALUE, -400, -4, 0, Integer.MAX_VALUE - 3, Integer.MAX_VALUE}) {
            CHECKS.due("setHum(7, " + period + ")", x.setHum(7, period), BAD);
        }
        CHECKS.due("amplitude kept", x.probe(1, 0), 6);
        CHECKS.due("period kept", x.setHum(0, 8), 4);
    }

    /** "amplitude * u / q if u is less than q; .. if u is from q to 3 * q - 1; .. otherwise": around each end. */
    private static void humPieces() {
        for (int q : new int[] {1, 2, 3, 25, 99, 100}) {
            for (int amplitude : new int[] {1, 7, 1000000}) {
                SlopeMeter x = new SlopeMeter();
                x.setHum(amplitude, 4 * q);
                int beside = amplitude * (q - 1) / q;
                int[][] rows = {{0, 0}, {q, amplitude}, {2 * q, 0}, {3 * q, -amplitude}, {4 * q, 0},
                    {q - 1, beside}, {q + 1, beside}, {3 * q - 1, -beside}, {3 * q + 1, -beside},
                    {2 * q - 1, amplitude / q}, {2 * q + 1, -(amplitude / q)}, {4 * q - 1, -(amplitude / q)},
                    {4 * q + 1, amplitude / q}, {5 * q, amplitude}, {7 * q, -amplitude}};
                for (int[] r : rows) {
                    CHECKS.due("hum " + amplitude + ", q " + q + " at " + r[0], x.probe(r[0], 0), r[1]);
                }
            }
        }
    }

    /** "divisions are truncated toward 0", above and below 0, and the product comes first. */
    private static void humTruncates() {
        SlopeMeter x = new SlopeMeter();
        x.setHum(5, 16);
        int[] wave = {0, 1, 2, 3, 5, 3, 2, 1, 0, -1, -2, -3, -5, -3, -2, -1, 0};
        for (int after = 0; after < wave.length; after++) {
            CHECKS.due("hum 5, 16 at " + after, x.probe(after, 0), wave[after]);
        }
    }

    /** "u as the time modulo the period": the last tick of a period and the first of the next. */
    private static void humWrapsAround() {
        SlopeMeter x = new SlopeMeter();
        x.setHum(100, 400);
        x.pass(399);
        CHECKS.due("hum at 399", x.probe(0, 0), -1);
        CHECKS.due("hum at 400", x.probe(1, 0), 0);
        CHECKS.due("hum at 401", x.probe(2, 0), 1);
        x.pass(1);
        CHECKS.due("hum at 400, later", x.probe(0, 0), 0);
        CHECKS.due("hum at 799", x.probe(399, 0), -1);
        CHECKS.due("hum at 800", x.probe(400, 0), 0);
        CHECKS.due("hum at 100400", x.probe(100000, 0), 0);
        CHECKS.due("hum at 100399", x.probe(99999, 0), -1);
    }

    /** The period counts from the time 0, not from the time at which it was set. */
    private static void humFollowsTheTime() {
        SlopeMeter x = new SlopeMeter();
        x.pass(10);
        x.setHum(8, 8);
        CHECKS.due("hum 8, 8 at 10", x.probe(0, 0), 8);
        x.setHum(9, 12);
        CHECKS.due("hum 9, 12 at 10", x.probe(0, 0), -6);
    }

    /** "limited to -2500000 to 2500000", in each range: just inside, at and just beyond. */
    private static void inputEnds() {
        SlopeMeter x = new SlopeMeter();
        int gain = 1;
        for (int range = 0; range < 4; range++) {
            x.set(SlopeMeter.RANGE, range);
            int at = 2500000 / gain;
            for (int sign = -1; sign <= 1; sign += 2) {
                String where = "input in range " + range + " of the level ";
                x.setLevel(sign * (at - 1));
                CHECKS.due(where + sign * (at - 1), x.probe(0, 1), sign * (2500000 - gain));
                x.setLevel(sign * at);
                CHECKS.due(where + sign * at, x.probe(0, 1), sign * 2500000);
                x.setLevel(sign * (at + 1));
                CHECKS.due(where + sign * (at + 1), x.probe(0, 1), sign * 2500000);
                x.setLevel(sign * 3000000);
                CHECKS.due(where + sign * 3000000, x.probe(0, 1), sign * 2500000);
            }
            gain *= 10;
        }
    }

    /** "(level + hum) * gain, limited": the sum is not limited, and a product beyond an int is no other number. */
    private static void inputIsLimitedBehindTheGain() {
        SlopeMeter x = new SlopeMeter();
        x.setLevel(3000000);
        x.setHum(1000000, 4);
        CHECKS.due("3000000 - 1000000", x.probe(3, 1), 2000000);
        CHECKS.due("3000000 + 1000000", x.probe(1, 1), 2500000);
        x.setLevel(-3000000);
        CHECKS.due("-3000000 + 1000000", x.probe(1, 1), -2000000);
        CHECKS.due("-3000000 - 1000000", x.probe(3, 1), -2500000);
        x.set(SlopeMeter.RANGE, 3);
        CHECKS.due("(-3000000 - 1000000) * 1000", x.probe(3, 1), -2500000);
        // 2200000 * 1000 and -2200000 * 1000 would have the other sign in an int
        x.setHum(0, 4);
        x.setLevel(2200000);
        CHECKS.due("2200000 * 1000", x.probe(0, 1), 2500000);
        x.setLevel(-2200000);
        CHECKS.due("-2200000 * 1000", x.probe(0, 1), -2500000);
        x.setHum(1000000, 4);
        x.setLevel(-1000000);
        CHECKS.due("(-1000000 + 1000000) * 1000", x.probe(1, 1), 0);
        x.setLevel(-999999);
        CHECKS.due("(-999999 + 1000000) * 1000", x.probe(1, 1), 1000);
    }

    /** "bias: -100000 to 100000"; what is returned is the new offset. */
    private static void biasEnds() {
        SlopeMeter x = new SlopeMeter();
        for (int bias : new int[] {-100000, -99999, 0, 99999, 100000}) {
            CHECKS.due("setOffset(" + bias + ", 0)", x.setOffset(bias, 0), 100000000 + bias);
            for (int refused : new int[] {-100001, 100001, Integer.MIN_VALUE, Integer.MAX_VALUE}) {
                CHECKS.due("setOffset(" + refused + ", 1)", x.setOffset(refused, 1), BAD);
                CHECKS.due("bias and drift kept", x.probe(100000, 2), bias);
            }
        }
    }

    /** "drift: -1000 to 1000". */
    private static void driftEnds() {
        SlopeMeter x = new SlopeMeter();
        x.pass(1000);
        for (int drift : new int[] {-1000, -999, 0, 999, 1000}) {
            CHECKS.due("setOffset(0, " + drift + ")", x.setOffset(0, drift), 100000000 + drift);
            for (int refused : new int[] {-1001, 1001, Integer.MIN_VALUE, Integer.MAX_VALUE}) {
                CHECKS.due("setOffset(1, " + refused + ")", x.setOffset(1, refused), BAD);
                CHECKS.due("bias and drift kept", x.probe(0, 2), drift);
            }
        }
    }

    /** "limited to -500000 to 500000": the bias 100000 and the drift 1000 come there at the time 400000. */
    private static void offsetEnds() {
        SlopeMeter x = new SlopeMeter();
        for (int i = 0; i < 3; i++) {
            x.pass(100000);
        }
        for (int sign = -1; sign <= 1; sign += 2) {
            x.setOffset(sign * 100000, sign * 1000);
            CHECKS.due("offset at 399999", x.probe(99999, 2), sign * 499999);
            CHECKS.due("offset at 400000", x.probe(100000, 2), sign * 500000);
        }
        x.pass(100000);
        for (int sign = -1; sign <= 1; sign += 2) {
            CHECKS.due("offset at the limit", x.setOffset(sign * 100000, sign * 1000), 100000000 + sign * 500000);
            CHECKS.due("offset at 400001", x.probe(1, 2), sign * 500000);
            CHECKS.due("offset at 500000", x.probe(100000, 2), sign * 500000);
        }
        x.pass(1);
        CHECKS.due("offset beyond the limit", x.setOffset(100000, 1000), 100500000);
        CHECKS.due("offset below the limit", x.setOffset(-100000, -1000), 99500000);
        // 99998 + 400001 and 99999 + 400001
        CHECKS.due("offset just inside", x.setOffset(99998, 1000), 100499999);
        CHECKS.due("offset just at the limit", x.setOffset(99999, 1000), 100500000);
    }

    /** "bias + drift * t / 1000": the drift's part alone is truncated, toward 0. */
    private static void offsetTruncates() {
        SlopeMeter x = new SlopeMeter();
        for (int sign = -1; sign <= 1; sign += 2) {
            x.setOffset(-10 * sign, sign);
            CHECKS.due("offset at 999", x.probe(999, 2), -10 * sign);
            CHECKS.due("offset at 1000", x.probe(1000, 2), -9 * sign);
            CHECKS.due("offset at 1999", x.probe(1999, 2), -9 * sign);
            CHECKS.due("offset at 2000", x.probe(2000, 2), -8 * sign);
        }
    }

    /** "The settings are, in parentheses their ranges and initial values", and "Returns the previous value". */
    private static void settingEnds() {
        int[] least = {4, 1, 0, 0, 0, 0};
        int[] most = {400, 50, 1, 10, 1, 3};
        for (int setting = 0; setting < 6; setting++) {
            SlopeMeter x = new SlopeMeter();
            int previous = x.get(setting);
            for (int value = least[setting] - 3; value <= most[setting] + 3; value++) {
                boolean isRight = value >= least[setting] && value <= most[setting];
                CHECKS.due("set(" + setting + ", " + value + ")", x.set(setting, value), isRight ? previous : BAD);
                previous = isRight ? value : previous;
            }
            for (int value : new int[] {Integer.MIN_VALUE, -most[setting], Integer.MAX_VALUE}) {
                CHECKS.due("set(" + setting + ", " + value + ")", x.set(setting, value), BAD);
            }
            CHECKS.due("get(" + setting + ")", x.get(setting), most[setting]);
            for (int other = 0; other < 6; other++) {
                int initial = new SlopeMeter().get(other);
                CHECKS.due("get(" + other + ") beside " + setting, x.get(other), other == setting ? most[other] : initial);
            }
        }
    }

    /** "setting: WINDOW to RANGE", of set and of get. */
    private static void settingNumbers() {
        SlopeMeter x = new SlopeMeter();
        for (int no : new int[] {-1, -2, 6, 7, Integer.MIN_VALUE, Integer.MAX_VALUE}) {
            CHECKS.due("get(" + no + ")", x.get(no), BAD);
            for (int value : new int[] {0, 1, 4, 100}) {
                CHECKS.due("set(" + no + ", " + value + ")", x.set(no, value), BAD);
            }
        }
        CHECKS.due("get(WINDOW)", x.get(SlopeMeter.WINDOW), 100);
        CHECKS.due("get(RANGE)", x.get(SlopeMeter.RANGE), 0);
        CHECKS.due("nothing has changed", States.future(x), States.future(new SlopeMeter()));
    }

    /** "If ZERO is set, the next reading counts as the first one": also with the same value, not if refused. */
    private static void zeroCountsFromTheSetting() {
        SlopeMeter x = new SlopeMeter();
        x.set(SlopeMeter.ZERO, 4);
        x.read();
        CHECKS.due("count(4)", x.count(4), 3);
        for (int refused : new int[] {-1, 11, Integer.MIN_VALUE, Integer.MAX_VALUE}) {
            CHECKS.due("set(ZERO, " + refused + ")", x.set(SlopeMeter.ZERO, refused), BAD);
            CHECKS.due("count(4) kept", x.count(4), 3);
        }
        for (int setting : new int[] {0, 1, 2, 4, 5}) {
            x.set(setting, x.get(setting));
            CHECKS.due("count(4) after set of " + setting, x.count(4), 3);
        }
        CHECKS.due("set(ZERO, 4) again", x.set(SlopeMeter.ZERO, 4), 4);
        CHECKS.due("count(4) anew", x.count(4), 0);
        int before = x.count(0);
        x.read();
        CHECKS.due("ticks of the reading with a zero conversion", x.count(0) - before, 200);
        CHECKS.due("set(ZERO, 0)", x.set(SlopeMeter.ZERO, 0), 4);
        CHECKS.due("count(4) never", x.count(4), SlopeMeter.NONE);
    }

    /** "after: 0 to 100000: so many ticks from now". */
    private static void probeEnds() {
        SlopeMeter x = new SlopeMeter();
        x.setOffset(0, 1000);
        x.setHum(100, 400);
        x.pass(7);
        for (int after : new int[] {0, 1, 99999, 100000}) {
            CHECKS.due("probe(" + after + ", 2)", x.probe(after, 2), 7 + after);
            int u = (7 + after) % 400;
            CHECKS.due("probe(" + after + ", 0)", x.probe(after, 0), u);
            CHECKS.due("probe(" + after + ", 1)", x.probe(after, 1), u);
        }
        for (int refused : new int[] {-1, 100001, Integer.MIN_VALUE, Integer.MAX_VALUE}) {
            for (int what = -1; what <= 3; what++) {
                CHECKS.due("probe(" + refused + ", " + what + ")", x.probe(refused, what), Checks.gone(BAD));
            }
        }
        CHECKS.due("time", x.count(0), 7);
    }

    /** "what: 0 for the hum, 1 for the input in the present range, 2 for the offset". */
    private static void probeWhat() {
        SlopeMeter x = new SlopeMeter();
        x.setLevel(-20);
        x.setHum(4, 16);
        x.setOffset(30, 0);
        long[] hum = {0, 1, 2, 3, 4};
        int gain = 1;
        for (int range = 0; range < 4; range++) {
            x.set(SlopeMeter.RANGE, range);
            for (int after = 0; after < hum.length; after++) {
                CHECKS.due("hum in range " + range, x.probe(after, 0), hum[after]);
                CHECKS.due("input in range " + range, x.probe(after, 1), (-20 + hum[after]) * gain);
                CHECKS.due("offset in range " + range, x.probe(after, 2), 30);
            }
            gain *= 10;
        }
        for (int refused : new int[] {-1, 3, Integer.MIN_VALUE, Integer.MAX_VALUE}) {
            CHECKS.due("probe(0, " + refused + ")", x.probe(0, refused), Checks.gone(BAD));
        }
    }
}
