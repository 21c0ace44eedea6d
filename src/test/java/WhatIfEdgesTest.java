/** The boundary cases of promises 14 to 19. */
public final class WhatIfEdgesTest {
    private static final Checks CHECKS = new Checks("WhatIfEdgesTest");
    private static final int BAD = SlopeMeter.BAD_VALUE;
    private static final int NONE = SlopeMeter.NONE;
    private static final int[] EXTREMES = {Integer.MIN_VALUE, Integer.MIN_VALUE + 1, Integer.MAX_VALUE - 1, Integer.MAX_VALUE};

    public static void main(String[] args) {
        wouldReadEnds();
        wouldReadIsTheReading();
        rippleEnds();
        rippleOfOneCopy();
        rippleIsOfReadings();
        rippleTruncatesThePassing();
        rippleEndsBeforeAWholePeriod();
        bestWindowFirst();
        bestWindowStep();
        bestWindowCount();
        bestWindowLast();
        bestWindowOfSeveral();
        bestWindowPlaces();
        orderFirst();
        orderStep();
        orderCount();
        orderLast();
        orderWhat();
        orderEqual();
        levelForEnds();
        levelForNone();
        levelForLeast();
        levelForEachLevel();
        settleAtOnce();
        settleSteps();
        settleTwentyAndMore();
        CHECKS.finish();
    }

    /** "level: -3000000 to 3000000". */
    private static void wouldReadEnds() {
        SlopeMeter x = States.meter(4, 77);
        int[][] rows = {{-3000000, -152}, {-2999999, -152}, {-1, 0}, {0, 0}, {1, 0}, {2999999, 152}, {3000000, 152}};
        for (int[] r : rows) {
            CHECKS.due("wouldRead(" + r[0] + ")", x.wouldRead(r[0]), r[1] * 16384);
        }
        for (int refused : new int[] {-3000001, 3000001}) {
            CHECKS.due("wouldRead(" + refused + ")", x.wouldRead(refused), Checks.gone(BAD));
        }
        for (int refused : EXTREMES) {
            CHECKS.due("wouldRead(" + refused + ")", x.wouldRead(refused), Checks.gone(BAD));
        }
        CHECKS.due("level kept", x.count(2), 10000077);
    }

    /** "the value of the reading that would be made now with another level", with its zero conversion if one is due. */
    private static void wouldReadIsTheReading() {
        int[] levels = {-3000000, -5, 0, 5, 40000, 3000000};
        for (int level : levels) {
            SlopeMeter x = States.busy();
            for (int i = 0; i < 9; i++) {
                long want = x.wouldRead(level);
                x.setLevel(level);
                CHECKS.due("read() of " + level, x.read(), want);
                x.setLevel(-2345);
                x.read();
            }
        }
    }

    /** "n: 1 to 16": the counts of a reading that begins at each tick of a period, and each n. */
    private static void rippleEnds() {
        SlopeMeter x = States.meter(4, 0);
        x.setHum(65536, 16);
        int[] counts = {1, 2, 3, 3, 2, 1, 0, 0, -1, -2, -3, -3, -2, -1, 0, 0};
        for (int n = 1; n <= 16; n++) {
            int least = counts[0];
            int greatest = counts[0];
            for (int k = 1; k < n; k++) {
                least = Math.min(least, counts[k * 16 / n]);
                greatest = Math.max(greatest, counts[k * 16 / n]);
            }
            CHECKS.due("ripple(" + n + ")", x.ripple(n), (greatest - least) * 16384);
        }
        for (int refused : new int[] {0, -1, -16, 17, 18}) {
            CHECKS.due("ripple(" + refused + ")", x.ripple(refused), Checks.gone(BAD));
        }
        for (int refused : EXTREMES) {
            CHECKS.due("ripple(" + refused + ")", x.ripple(refused), Checks.gone(BAD));
        }
        CHECKS.due("time kept", x.count(0), 0);
    }

    /** One copy has one value, whatever it is. */
    private static void rippleOfOneCopy() {
        for (int level : new int[] {-3000000, -20000, 0, 20000, 3000000}) {
            SlopeMeter x = States.busy();
            x.setLevel(level);
            CHECKS.due("ripple(1) of " + level, x.ripple(1), 0);
        }
    }

    /** "readings are made in n copies, in which k * period / n ticks pass first, for k from 0 to n - 1". */
    private static void rippleIsOfReadings() {
        for (int n = 1; n <= 16; n++) {
            for (int period : new int[] {4, 44, 400}) {
                CHECKS.due("ripple(" + n + ") of the period " + period, humming(period).ripple(n), rippleByPassing(period, n));
            }
        }
    }

    private static SlopeMeter humming(int period) {
        SlopeMeter x = States.busy();
        x.setHum(300000, period);
        x.set(SlopeMeter.RANGE, 0);
        return x;
    }

    private static long rippleByPassing(int period, int n) {
        long least = Long.MAX_VALUE;
        long greatest = Long.MIN_VALUE;
        for (int k = 0; k < n; k++) {
            SlopeMeter x = humming(period);
            if (k * period / n > 0) {
                x.pass(k * period / n);
            }
            long value = x.read();
            least = Math.min(least, value);
            greatest = Math.max(greatest, value);
        }
        return greatest - least;
    }

    /** With the period 4 and three copies, 0, 1 and 2 ticks pass: the last is 8 / 3. */
    private static void rippleTruncatesThePassing() {
        SlopeMeter x = States.meter(5, 0);
        x.setHum(65536, 4);
        // from 0 to 3 ticks the counts are 0, 1, 0 and -1
        CHECKS.due("ripple(2)", x.ripple(2), 0);
        CHECKS.due("ripple(3)", x.ripple(3), 13107);
        CHECKS.due("ripple(4)", x.ripple(4), 2 * 13107);
        // 0, 0, 1, 2 and 3 ticks
        CHECKS.due("ripple(5)", x.ripple(5), 2 * 13107);
    }

    /** "for k from 0 to n - 1": the offset goes on by 1 in each tick, so that the first and the last copy tell all. */
    private static void rippleEndsBeforeAWholePeriod() {
        for (int sign = -1; sign <= 1; sign += 2) {
            SlopeMeter x = States.meter(400, 0);
            x.setHum(0, 400);
            x.pass(10000);
            x.setOffset(0, sign * 1000);
            // 400 ticks from t on have 400 * t + 79800
            long first = sign * ((400 * 10000 + 79800) / 65536) * 65536L / 400;
            for (int n = 1; n <= 16; n++) {
                int start = 10000 + (n - 1) * 400 / n;
                long last = sign * ((400 * start + 79800) / 65536) * 65536L / 400;
                CHECKS.due("ripple(" + n + ") of a drift", x.ripple(n), sign * (last - first));
            }
        }
    }

    /** "first: 4 to 400". */
    private static void bestWindowFirst() {
        SlopeMeter x = States.meter(50, 1000);
        for (int first : new int[] {4, 5, 399, 400}) {
            CHECKS.due("bestWindow(" + first + ", 1, 1)", x.bestWindow(first, 1, 1), first);
        }
        for (int refused : new int[] {3, 0, -4, 401}) {
            CHECKS.due("bestWindow(" + refused + ", 1, 1)", x.bestWindow(refused, 1, 1), BAD);
        }
        for (int refused : EXTREMES) {
            CHECKS.due("bestWindow(" + refused + ", 1, 1)", x.bestWindow(refused, 1, 1), BAD);
            CHECKS.due("bestWindow(" + refused + ", 100, 12)", x.bestWindow(refused, 100, 12), BAD);
        }
        CHECKS.due("window kept", x.get(SlopeMeter.WINDOW), 50);
    }

    /** "step: 1 to 100". */
    private static void bestWindowStep() {
        SlopeMeter x = States.meter(50, 1000);
        for (int step : new int[] {1, 2, 99, 100}) {
            CHECKS.due("bestWindow(4, " + step + ", 1)", x.bestWindow(4, step, 1), 4);
            CHECKS.due("bestWindow(4, " + step + ", 4)", x.bestWindow(4, step, 4), 4);
        }
        for (int refused : new int[] {0, -1, -100, 101}) {
            CHECKS.due("bestWindow(4, " + refused + ", 1)", x.bestWindow(4, refused, 1), BAD);
            CHECKS.due("bestWindow(4, " + refused + ", 2)", x.bestWindow(4, refused, 2), BAD);
        }
        for (int refused : EXTREMES) {
            CHECKS.due("bestWindow(4, " + refused + ", 1)", x.bestWindow(4, refused, 1), BAD);
            CHECKS.due("bestWindow(4, " + refused + ", 12)", x.bestWindow(4, refused, 12), BAD);
        }
    }

    /** "count: 1 to 12". */
    private static void bestWindowCount() {
        SlopeMeter x = States.meter(50, 1000);
        for (int count : new int[] {1, 2, 11, 12}) {
            CHECKS.due("bestWindow(4, 1, " + count + ")", x.bestWindow(4, 1, count), 4);
        }
        for (int refused : new int[] {0, -1, -12, 13}) {
            CHECKS.due("bestWindow(4, 1, " + refused + ")", x.bestWindow(4, 1, refused), BAD);
        }
        for (int refused : EXTREMES) {
            CHECKS.due("bestWindow(4, 1, " + refused + ")", x.bestWindow(4, 1, refused), BAD);
            CHECKS.due("bestWindow(4, 100, " + refused + ")", x.bestWindow(4, 100, refused), BAD);
        }
    }

    /** "the last window has to be at most 400": the last of a row, not one behind it. */
    private static void bestWindowLast() {
        SlopeMeter x = States.meter(50, 1000);
        int[][] right = {{400, 100, 1}, {399, 1, 2}, {300, 100, 2}, {4, 36, 12}, {200, 100, 3}, {389, 1, 12}};
        for (int[] r : right) {
            CHECKS.due("bestWindow(" + r[0] + ", " + r[1] + ", " + r[2] + ")", x.bestWindow(r[0], r[1], r[2]), r[0]);
        }
        int[][] wrong = {{400, 1, 2}, {301, 100, 2}, {5, 36, 12}, {4, 37, 12}, {201, 100, 3}, {390, 1, 12}, {4, 100, 12}};
        for (int[] w : wrong) {
            CHECKS.due("bestWindow(" + w[0] + ", " + w[1] + ", " + w[2] + ")", x.bestWindow(w[0], w[1], w[2]), BAD);
        }
    }

    /** "the smallest one of several": whole periods all have the ripple 0. */
    private static void bestWindowOfSeveral() {
        SlopeMeter x = States.meter(50, 1000);
        x.setHum(500000, 40);
        CHECKS.due("bestWindow(20, 20, 12)", x.bestWindow(20, 20, 12), 40);
        CHECKS.due("bestWindow(60, 20, 12)", x.bestWindow(60, 20, 12), 80);
        CHECKS.due("bestWindow(40, 40, 10)", x.bestWindow(40, 40, 10), 40);
        CHECKS.due("bestWindow(41, 13, 4)", x.bestWindow(41, 13, 4), 80);
        x.setHum(0, 40);
        CHECKS.due("bestWindow(77, 3, 12) without hum", x.bestWindow(77, 3, 12), 77);
    }

    /** The best one is the first, the second, the last but one, or the last of the row. */
    private static void bestWindowPlaces() {
        SlopeMeter x = States.meter(50, 1000);
        x.setHum(500000, 100);
        for (int first : new int[] {100, 98, 80, 78}) {
            CHECKS.due("bestWindow(" + first + ", 2, 12)", x.bestWindow(first, 2, 12), 100);
        }
        CHECKS.due("bestWindow(99, 1, 2)", x.bestWindow(99, 1, 2), 100);
        CHECKS.due("bestWindow(100, 1, 2)", x.bestWindow(100, 1, 2), 100);
        CHECKS.due("bestWindow(1 before, 1, 1)", x.bestWindow(99, 1, 1), 99);
        x.setHum(500000, 400);
        CHECKS.due("bestWindow(389, 1, 12)", x.bestWindow(389, 1, 12), 400);
    }

    /** "first: -3000000 to 3000000". */
    private static void orderFirst() {
        SlopeMeter x = States.meter(4, 0);
        CHECKS.due("order(-3000000, 1, 2, 1)", x.order(-3000000, 1, 2, 1), 1);
        CHECKS.due("order(-2999999, 1, 2, 1)", x.order(-2999999, 1, 2, 1), 1);
        CHECKS.due("order(2999998, 1, 2, 1)", x.order(2999998, 1, 2, 1), 1);
        CHECKS.due("order(2999999, 1, 2, 1)", x.order(2999999, 1, 2, 1), 1);
        // there is no step with which a row could begin at 3000000
        for (int refused : new int[] {-3000001, 3000000, 3000001, -3100000}) {
            CHECKS.due("order(" + refused + ", 1, 2, 1)", x.order(refused, 1, 2, 1), BAD);
            CHECKS.due("order(" + refused + ", 100000, 2, 0)", x.order(refused, 100000, 2, 0), BAD);
        }
        for (int refused : EXTREMES) {
            CHECKS.due("order(" + refused + ", 1, 2, 0)", x.order(refused, 1, 2, 0), BAD);
            CHECKS.due("order(" + refused + ", 100000, 40, 1)", x.order(refused, 100000, 40, 1), BAD);
        }
    }

    /** "step: 1 to 100000". */
    private static void orderStep() {
        SlopeMeter x = States.meter(4, 0);
        CHECKS.due("order(16383, 1, 2, 1)", x.order(16383, 1, 2, 1), 0);
        CHECKS.due("order(16384, 1, 2, 1)", x.order(16384, 1, 2, 1), 1);
        CHECKS.due("order(0, 99999, 3, 1)", x.order(0, 99999, 3, 1), 0);
        CHECKS.due("order(0, 100000, 3, 1)", x.order(0, 100000, 3, 1), 0);
        CHECKS.due("order(2400000, 100000, 4, 1)", x.order(2400000, 100000, 4, 1), 2);
        for (int refused : new int[] {0, -1, -100000, 100001}) {
            CHECKS.due("order(0, " + refused + ", 2, 1)", x.order(0, refused, 2, 1), BAD);
        }
        for (int refused : EXTREMES) {
            CHECKS.due("order(0, " + refused + ", 2, 1)", x.order(0, refused, 2, 1), BAD);
            CHECKS.due("order(0, " + refused + ", 40, 1)", x.order(0, refused, 40, 1), BAD);
        }
    }

    /** "count: 2 to 40". */
    private static void orderCount() {
        SlopeMeter x = States.meter(4, 0);
        for (int count : new int[] {2, 3, 39, 40}) {
            CHECKS.due("order(0, 1, " + count + ", 1)", x.order(0, 1, count, 1), count - 1);
            CHECKS.due("order(0, 1, " + count + ", 0)", x.order(0, 1, count, 0), 0);
            CHECKS.due("order(0, 16384, " + count + ", 1)", x.order(0, 16384, count, 1), 0);
        }
        for (int refused : new int[] {1, 0, -1, -40, 41}) {
            CHECKS.due("order(0, 1, " + refused + ", 1)", x.order(0, 1, refused, 1), BAD);
        }
        for (int refused : EXTREMES) {
            CHECKS.due("order(0, 1, " + refused + ", 1)", x.order(0, 1, refused, 1), BAD);
            CHECKS.due("order(0, 100000, " + refused + ", 1)", x.order(0, 100000, refused, 1), BAD);
        }
    }

    /** "the last level has to be at most 3000000". */
    private static void orderLast() {
        SlopeMeter x = States.meter(4, 0);
        int[][] right = {{2999999, 1, 2}, {2900000, 100000, 2}, {-900000, 100000, 40}, {2999961, 1, 40}, {2610000, 10000, 40}};
        for (int[] r : right) {
            String call = "order(" + r[0] + ", " + r[1] + ", " + r[2] + ", 0)";
            CHECKS.due(call, x.order(r[0], r[1], r[2], 0), 0);
        }
        int[][] wrong = {{3000000, 1, 2}, {2900001, 100000, 2}, {-899999, 100000, 40}, {2999962, 1, 40}, {2610001, 10000, 40}};
        for (int[] w : wrong) {
            String call = "order(" + w[0] + ", " + w[1] + ", " + w[2] + ", 0)";
            CHECKS.due(call, x.order(w[0], w[1], w[2], 0), BAD);
        }
    }

    /** "what: 0 for .. less than the one before, 1 for .. both are equal". */
    private static void orderWhat() {
        SlopeMeter x = States.meter(4, 0);
        CHECKS.due("order(0, 8192, 3, 0)", x.order(0, 8192, 3, 0), 0);
        CHECKS.due("order(0, 8192, 3, 1)", x.order(0, 8192, 3, 1), 1);
        for (int refused : new int[] {-1, -2, 2, 3}) {
            CHECKS.due("order(0, 8192, 3, " + refused + ")", x.order(0, 8192, 3, refused), BAD);
        }
        for (int refused : EXTREMES) {
            CHECKS.due("order(0, 8192, 3, " + refused + ")", x.order(0, 8192, 3, refused), BAD);
        }
    }

    /** Each level is compared with the one before, also the second and the last. */
    private static void orderEqual() {
        SlopeMeter x = States.meter(4, 0);
        // equal, greater
        CHECKS.due("order(0, 16383, 3, 1)", x.order(0, 16383, 3, 1), 1);
        // greater, equal
        CHECKS.due("order(16383, 8000, 3, 1)", x.order(16383, 8000, 3, 1), 1);
        // -1 is reached from -16384 on: equal around 0 alone
        CHECKS.due("order(-16384, 16383, 4, 1)", x.order(-16384, 16383, 4, 1), 1);
        CHECKS.due("order(-16384, 1, 2, 1)", x.order(-16384, 1, 2, 1), 0);
        CHECKS.due("order(-16383, 1, 40, 1)", x.order(-16383, 1, 40, 1), 39);
    }

    /** "value: -10000000 to 10000000". */
    private static void levelForEnds() {
        SlopeMeter x = States.meter(10, 123);
        CHECKS.due("levelFor(-10000000)", x.levelFor(-10000000), -3000000);
        CHECKS.due("levelFor(-9999999)", x.levelFor(-9999999), -3000000);
        CHECKS.due("levelFor(9999999)", x.levelFor(9999999), Checks.gone(NONE));
        CHECKS.due("levelFor(10000000)", x.levelFor(10000000), Checks.gone(NONE));
        for (int refused : new int[] {-10000001, 10000001}) {
            CHECKS.due("levelFor(" + refused + ")", x.levelFor(refused), Checks.gone(BAD));
        }
        for (int refused : EXTREMES) {
            CHECKS.due("levelFor(" + refused + ")", x.levelFor(refused), Checks.gone(BAD));
        }
        // a zero far below makes 10000000 a value that is reached
        SlopeMeter y = States.meter(400, 0);
        for (int i = 0; i < 6; i++) {
            y.pass(100000);
        }
        y.setOffset(-100000, -1000);
        y.zero();
        y.setOffset(0, 0);
        y.set(SlopeMeter.WINDOW, 4);
        // 3051 counts of the zero are 49987584
        CHECKS.due("levelFor(10000000) with a zero", y.levelFor(10000000), -3000000);
        CHECKS.due("levelFor(10000001) with a zero", y.levelFor(10000001), Checks.gone(BAD));
    }

    /** "NONE if the value with the level 3000000 is less": 381 counts of the window 10 are 2496921. */
    private static void levelForNone() {
        SlopeMeter x = States.meter(10, 123);
        CHECKS.due("wouldRead(3000000)", x.wouldRead(3000000), 2496921);
        CHECKS.due("levelFor(2496920)", x.levelFor(2496920), 2496922);
        CHECKS.due("levelFor(2496921)", x.levelFor(2496921), 2496922);
        CHECKS.due("levelFor(2496922)", x.levelFor(2496922), Checks.gone(NONE));
        // four ticks around the least of the hum are -3960000; with 4 * 5232 the level 3000000 comes to 123 * 65536
        SlopeMeter y = States.meter(4, 0);
        y.setHum(1000000, 400);
        y.setOffset(5232, 0);
        y.pass(298);
        CHECKS.due("levelFor(122 counts)", y.levelFor(122 * 16384), 3000000 - 16384);
        CHECKS.due("levelFor(123 counts)", y.levelFor(123 * 16384), 3000000);
        CHECKS.due("levelFor(123 counts and 1)", y.levelFor(123 * 16384 + 1), Checks.gone(NONE));
    }

    /** The least level has the value, or more: -3000000 itself, and the first above it that has more. */
    private static void levelForLeast() {
        SlopeMeter x = States.meter(10, 123);
        CHECKS.due("wouldRead(-3000000)", x.wouldRead(-3000000), -2496921);
        CHECKS.due("levelFor(-2496922)", x.levelFor(-2496922), -3000000);
        CHECKS.due("levelFor(-2496921)", x.levelFor(-2496921), -3000000);
        CHECKS.due("levelFor(-2496920)", x.levelFor(-2496920), -2496921);
        SlopeMeter y = States.meter(4, 0);
        y.setHum(1000000, 400);
        y.setOffset(-5232, 0);
        y.pass(98);
        CHECKS.due("levelFor(-123 counts)", y.levelFor(-123 * 16384), -3000000);
        CHECKS.due("levelFor(-123 counts and 1)", y.levelFor(-123 * 16384 + 1), -2999999);
        CHECKS.due("levelFor(-121 counts)", y.levelFor(-121 * 16384), -2999999 + 16384);
    }

    /** "the middle being (low + high) / 2, rounded down": levels on both sides of 0, and 0 itself, are found. */
    private static void levelForEachLevel() {
        SlopeMeter x = States.meter(4, 0);
        for (int counts = -12; counts <= 12; counts++) {
            // n counts above 0 need n * 16384, and -n counts are had from 1 above -(n + 1) * 16384 on
            int want = counts > 0 ? counts * 16384 : (counts - 1) * 16384 + 1;
            CHECKS.due("levelFor(" + counts + " counts)", x.levelFor(counts * 16384), want);
            int next = counts >= 0 ? (counts + 1) * 16384 : counts * 16384 + 1;
            CHECKS.due("levelFor(" + counts + " counts and 1)", x.levelFor(counts * 16384 + 1), next);
        }
        x.set(SlopeMeter.MODE, SlopeMeter.MULTI);
        // the one slot adds, so that the run-up ends above 0 and all counts are rounded down
        CHECKS.due("levelFor(0) with slots", x.levelFor(0), 0);
        CHECKS.due("levelFor(-3 counts) with slots", x.levelFor(-3 * 16384), -3 * 16384);
        x.set(SlopeMeter.MODE, SlopeMeter.DUAL);
        x.setOffset(-16384, 0);
        CHECKS.due("levelFor(1) with an offset", x.levelFor(1), 32768);
        CHECKS.due("levelFor(0) with an offset", x.levelFor(0), 1);
        x.setOffset(16384, 0);
        CHECKS.due("levelFor(1) with the other offset", x.levelFor(1), 0);
        CHECKS.due("levelFor(0) with the other offset", x.levelFor(0), -32767);
    }

    /** "Returns the number of readings before this one": 0 if the first leaves the range as it was. */
    private static void settleAtOnce() {
        for (int range = 0; range < 4; range++) {
            SlopeMeter x = States.meter(20, 0);
            x.set(SlopeMeter.RANGE, range);
            CHECKS.due("settle() without AUTO", x.settle(), 0);
            x.set(SlopeMeter.AUTO, 1);
            CHECKS.due("settle() from " + range + " up", x.settle(), 3 - range);
            x.setLevel(3000000);
            CHECKS.due("settle() from " + range + " down", x.settle(), range);
            CHECKS.due("range kept", x.get(SlopeMeter.RANGE), range);
        }
    }

    /** One reading that changes the range, and one that does not. */
    private static void settleSteps() {
        SlopeMeter x = States.meter(20, 50000);
        x.set(SlopeMeter.AUTO, 1);
        CHECKS.due("settle()", x.settle(), 1);
        x.read();
        CHECKS.due("range", x.get(SlopeMeter.RANGE), 1);
        CHECKS.due("settle() then", x.settle(), 0);
        x.read();
        CHECKS.due("range then", x.get(SlopeMeter.RANGE), 1);
    }

    /** "at most 20; NONE if the range still changes behind the 21st one". The numbers were searched for. */
    private static void settleTwentyAndMore() {
        SlopeMeter x = States.meter(307, 114741);
        x.setOffset(25253, 0);
        x.zero();
        x.setOffset(90852, 838);
        x.setHum(19316, 76);
        x.set(SlopeMeter.WINDOW, 51);
        x.set(SlopeMeter.AUTO, 1);
        for (int changes = 21; changes >= 0; changes--) {
            CHECKS.due("settle() before " + changes + " changes", x.settle(), changes == 21 ? NONE : changes);
            int range = x.get(SlopeMeter.RANGE);
            x.read();
            CHECKS.due("a change", x.get(SlopeMeter.RANGE) == range ? 0 : 1, changes == 0 ? 0 : 1);
        }
    }
}
