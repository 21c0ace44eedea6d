/** Promises 8 to 13: readings, zero conversions, waiting, the log and its statistics. */
public final class ReadingTest {
    private static final Checks CHECKS = new Checks("ReadingTest");
    private static final int BAD = SlopeMeter.BAD_VALUE;
    private static final int NONE = SlopeMeter.NONE;
    private static final int[] EXTREMES = {Integer.MIN_VALUE, Integer.MAX_VALUE};

    public static void main(String[] args) {
        dualSlope();
        nothingToMeasure();
        multislope();
        lastSlotIsShorter();
        overTheRange();
        peakOfARunDown();
        slotsOfOneTick();
        integralOfOne();
        zeroConversion();
        zeroOfAReading();
        rangeSwitching();
        rangeSwitchingEdges();
        overSwitchesDown();
        pass();
        log();
        latest();
        statistic();
        statisticOfOvers();
        tooManyReadings();
        CHECKS.finish();
    }

    private static SlopeMeter meter(int window, int level) {
        SlopeMeter x = new SlopeMeter();
        x.set(SlopeMeter.WINDOW, window);
        x.setLevel(level);
        return x;
    }

    private static void latestIs(SlopeMeter x, String run, long... want) {
        for (int what = 0; what < want.length; what++) {
            CHECKS.due(run + " latest(" + what + ")", x.latest(what), want[what]);
        }
    }

    /** Promise 8: 4 * 300000 is one reference and 151424, which leaves 2 ticks and 13 sixteenths. */
    private static void dualSlope() {
        SlopeMeter x = meter(4, 300000);
        CHECKS.due("read() 300000", x.read(), 18 * 65536 / 4);
        latestIs(x, "300000", 18, 2, 14, 0, 0, 1200000, 20352);
        CHECKS.due("time", x.count(0), 20);
        x.setLevel(-300000);
        CHECKS.due("read() -300000", x.read(), -18 * 65536 / 4);
        latestIs(x, "-300000", -18, 2, 14, 0, 0, 1200000, -20352);
        CHECKS.due("time", x.count(0), 40);
        CHECKS.due("readings", x.count(1), 2);
        x.set(SlopeMeter.RANGE, 1);
        x.setLevel(-30001);
        CHECKS.due("read() in range 1", x.read(), -18 * 65536 / 40);
        latestIs(x, "-30001 * 10", -18, 2, 14, 0, 0, 1200040, -20392);
        x.set(SlopeMeter.RANGE, 0);
        x.setLevel(262144);
        CHECKS.due("read() 262144", x.read(), 262144);
        latestIs(x, "262144", 16, 1, 0, 0, 0, 1048576, 0);
        x.setLevel(245760);
        CHECKS.due("read() 245760", x.read(), 245760);
        latestIs(x, "245760", 15, 1, 1, 0, 0, 983040, 0);
    }

    private static void nothingToMeasure() {
        SlopeMeter x = meter(7, 0);
        CHECKS.due("read() 0", x.read(), 0);
        latestIs(x, "0", 0, 0, 0, 0, 0, 0, 0);
        CHECKS.due("time", x.count(0), 7);
        CHECKS.due("over", x.log(0, 3), 0);
    }

    /** Slots of 2 ticks: up to 2 references and 400000, then down to 800000, then down again. */
    private static void multislope() {
        SlopeMeter x = meter(6, 200000);
        x.set(SlopeMeter.MODE, SlopeMeter.MULTI);
        x.set(SlopeMeter.SLOT, 2);
        // 2497152, 800000, -897152: one tick down, and 151424 is 3 sixteenths less 45184
        CHECKS.due("read() multislope", x.read(), 19 * 65536 / 6);
        latestIs(x, "multislope", 19, 1, 3, 4, 2, 2497152, -45184);
        x.setLevel(0);
        // 0 is not greater than 0, so that the first slot adds; then 2097152 goes down to 0
        x.set(SlopeMeter.WINDOW, 4);
        CHECKS.due("read() multislope of 0", x.read(), 0);
        latestIs(x, "multislope of 0", 0, 0, 0, 2, 2, 2097152, 0);
        x.set(SlopeMeter.WINDOW, 6);
        CHECKS.due("read() multislope of 0, three slots", x.read(), 0);
        latestIs(x, "multislope of 0, three slots", 0, 2, 0, 2, 4, 2097152, 0);
    }

    private static void lastSlotIsShorter() {
        SlopeMeter x = meter(5, 0);
        x.set(SlopeMeter.MODE, SlopeMeter.MULTI);
        x.set(SlopeMeter.SLOT, 3);
        CHECKS.due("read() with a short slot", x.read(), 0);
        latestIs(x, "short slot", 0, 1, 0, 2, 3, 3145728, 0);
        x.set(SlopeMeter.SLOT, 50);
        CHECKS.due("read() with a slot over all", x.read(), 0);
        latestIs(x, "slot over all", 0, 5, 0, 0, 5, 5242880, 0);
        x.set(SlopeMeter.MODE, SlopeMeter.DUAL);
        x.set(SlopeMeter.SLOT, 1);
        x.read();
        latestIs(x, "dual has no slots", 0, 0, 0, 0, 0, 0, 0);
    }

    /** 4 * (2500000 + 1048576) is more than the 12 references that the run-down takes at most. */
    private static void overTheRange() {
        SlopeMeter x = meter(4, 2500000);
        x.set(SlopeMeter.MODE, SlopeMeter.MULTI);
        x.set(SlopeMeter.SLOT, 50);
        CHECKS.due("read() over", x.read(), 128 * 65536 / 4);
        latestIs(x, "over", 128, 12, 0, 0, 4, 14194304, 1611392);
        CHECKS.due("over", x.log(0, 3), 1);
        CHECKS.due("time", x.count(0), 16);
        // 4 * (2097152 + 1048576) is 12 references: all is taken, and nothing is left
        x.setLevel(2097152);
        CHECKS.due("read() just not over", x.read(), 2097152);
        latestIs(x, "just not over", 128, 12, 0, 0, 4, 12582912, 0);
        CHECKS.due("over", x.log(1, 3), 0);
        x.setLevel(2097153);
        CHECKS.due("read() just over", x.read(), 2097152);
        latestIs(x, "just over", 128, 12, 0, 0, 4, 12582916, 4);
        CHECKS.due("over", x.log(2, 3), 1);
        x.setLevel(2097151);
        CHECKS.due("read() with a fine tick", x.read(), 127 * 65536 / 4);
        latestIs(x, "with a fine tick", 127, 12, 1, 0, 4, 12582908, 65532);
        CHECKS.due("over", x.log(3, 3), 0);
    }

    /** What a tick of the run-down leaves below 0 can be more than all before. */
    private static void peakOfARunDown() {
        SlopeMeter x = meter(4, 1);
        CHECKS.due("read() 1", x.read(), 0);
        latestIs(x, "1", 0, 1, 16, 0, 0, 1048572, 4);
        CHECKS.due("time", x.count(0), 21);
        x.setLevel(-1);
        CHECKS.due("read() -1", x.read(), 0);
        latestIs(x, "-1", 0, 1, 16, 0, 0, 1048572, -4);
    }

    /** The first slot adds, as 0 is not greater than 0; then the directions follow the integral. */
    private static void slotsOfOneTick() {
        SlopeMeter x = meter(5, 400000);
        x.set(SlopeMeter.MODE, SlopeMeter.MULTI);
        x.set(SlopeMeter.SLOT, 1);
        // 1448576, 800000, 151424, -497152, 951424: one tick down, and 97152 is 2 sixteenths
        CHECKS.due("read() with slots of one tick", x.read(), 30 * 65536 / 5);
        latestIs(x, "slots of one tick", 30, 1, 2, 3, 2, 1448576, 33920);
    }

    /** The offset is 0 in three ticks and 1 or -1 in the fourth. */
    private static void integralOfOne() {
        for (int sign = -1; sign <= 1; sign += 2) {
            SlopeMeter x = meter(4, 50);
            x.pass(997);
            x.setOffset(0, sign);
            CHECKS.due("zero() with the integral " + sign, x.zero(), 10000000);
            latestIs(x, "integral " + sign, 0, 1, 16, 0, 0, 1048575, sign);
        }
    }

    /** Promise 9. */
    private static void zeroConversion() {
        SlopeMeter x = meter(4, 2000000);
        x.setHum(1000000, 4);
        x.setOffset(100000, 0);
        // 400000 - 1048576 + 10 * 65536 = 6784
        CHECKS.due("zero()", x.zero(), 10000006);
        latestIs(x, "zero", 6, 1, 10, 0, 0, 648576, 6784);
        CHECKS.due("time", x.count(0), 15);
        CHECKS.due("readings", x.count(1), 0);
        CHECKS.due("count(3)", x.count(3), 10000006);
        x.setOffset(-100000, 0);
        CHECKS.due("zero() below", x.zero(), 9999994);
        CHECKS.due("count(3)", x.count(3), 9999994);
        x.set(SlopeMeter.ZERO, 5);
        x.read();
        CHECKS.due("count(4)", x.count(4), 4);
        x.zero();
        CHECKS.due("a zero() does not count for ZERO", x.count(4), 4);
        x.set(SlopeMeter.RANGE, 3);
        x.set(SlopeMeter.AUTO, 1);
        x.zero();
        CHECKS.due("a zero() does not switch the range", x.get(SlopeMeter.RANGE), 3);
    }

    /** Readings with ZERO equal to 2: the first and third have a zero conversion. */
    private static void zeroOfAReading() {
        SlopeMeter x = meter(4, 300000);
        x.setOffset(100000, 0);
        x.set(SlopeMeter.ZERO, 2);
        CHECKS.due("count(4) at first", x.count(4), 0);
        // 400000 are 6 counts, and 1600000 are 2 ticks less 8 sixteenths, 24 counts
        CHECKS.due("wouldRead(300000)", x.wouldRead(300000), (24 - 6) * 65536 / 4);
        CHECKS.due("read() with a zero", x.read(), (24 - 6) * 65536 / 4);
        CHECKS.due("counts", x.latest(0), 24);
        CHECKS.due("zero", x.log(0, 6), 6);
        CHECKS.due("net", x.log(0, 1), 18);
        CHECKS.due("begin", x.log(0, 4), 15);
        CHECKS.due("end", x.log(0, 5), 15 + 4 + 2 + 8);
        CHECKS.due("count(4)", x.count(4), 1);
        x.setOffset(0, 0);
        CHECKS.due("read() with the old zero", x.read(), (18 - 6) * 65536 / 4);
        CHECKS.due("begin", x.log(1, 4), 29);
        CHECKS.due("zero", x.log(1, 6), 6);
        CHECKS.due("count(4)", x.count(4), 0);
        CHECKS.due("read() with a new zero", x.read(), 18 * 65536 / 4);
        CHECKS.due("zero", x.log(2, 6), 0);
        CHECKS.due("begin", x.log(2, 4), 49 + 4);
        x.set(SlopeMeter.ZERO, 1);
        x.setOffset(100000, 0);
        x.read();
        CHECKS.due("count(4) with ZERO 1", x.count(4), 0);
        CHECKS.due("zero with ZERO 1", x.log(3, 6), 6);
        x.set(SlopeMeter.ZERO, 0);
        int before = x.count(0);
        x.read();
        CHECKS.due("no zero conversion with ZERO 0", x.log(4, 4), before);
    }

    /** A small level goes up range by range, a great one down again. */
    private static void rangeSwitching() {
        SlopeMeter x = meter(20, 500);
        x.read();
        CHECKS.due("without AUTO", x.get(SlopeMeter.RANGE), 0);
        x.set(SlopeMeter.AUTO, 1);
        int[] up = {1, 2, 3, 3};
        for (int i = 0; i < 4; i++) {
            x.read();
            CHECKS.due("range up " + i, x.get(SlopeMeter.RANGE), up[i]);
            CHECKS.due("range of the reading " + i, x.log(i + 1, 2), Math.min(i, 3));
        }
        x.setLevel(-2000000);
        int[] down = {2, 1, 0, 0};
        for (int i = 0; i < 4; i++) {
            x.read();
            CHECKS.due("range down " + i, x.get(SlopeMeter.RANGE), down[i]);
        }
    }

    /** With the window 6 the limits are 96 and 8, with the window 10 the lower one is 13. */
    private static void rangeSwitchingEdges() {
        int[][] rows = {
            {6, 1, 96 * 65536 / 60 + 1, 96, 1}, {6, 1, 97 * 65536 / 60 + 1, 97, 0},
            {6, 1, -96 * 65536 / 60 - 1, -96, 1}, {6, 1, -97 * 65536 / 60 - 1, -97, 0},
            {6, 1, 8 * 65536 / 60 + 1, 8, 1}, {6, 1, 7 * 65536 / 60 + 1, 7, 2},
            {6, 1, -8 * 65536 / 60 - 1, -8, 1}, {6, 1, -7 * 65536 / 60 - 1, -7, 2},
            {10, 1, 13 * 65536 / 100 + 1, 13, 1}, {10, 1, 12 * 65536 / 100 + 1, 12, 2},
            {6, 0, 97 * 65536 / 6 + 1, 97, 0}, {6, 3, 7 * 65536 / 6000 + 1, 7, 3},
        };
        for (int[] r : rows) {
            SlopeMeter x = meter(r[0], r[2]);
            x.set(SlopeMeter.AUTO, 1);
            x.set(SlopeMeter.RANGE, r[1]);
            x.read();
            CHECKS.due("net at the edge", x.log(0, 1), r[3]);
            CHECKS.due("range behind " + r[3] + " of window " + r[0], x.get(SlopeMeter.RANGE), r[4]);
        }
    }

    /** A conversion over the range switches down, although its net counts are 0; in range 0 it stays. */
    private static void overSwitchesDown() {
        for (int range = 0; range < 2; range++) {
            SlopeMeter x = meter(84, 2500000);
            x.setOffset(100000, 0);
            CHECKS.due("zero of 128", x.zero(), 10000128);
            x.setOffset(0, 0);
            x.set(SlopeMeter.WINDOW, 4);
            x.set(SlopeMeter.MODE, SlopeMeter.MULTI);
            x.set(SlopeMeter.SLOT, 50);
            x.set(SlopeMeter.AUTO, 1);
            x.set(SlopeMeter.RANGE, range);
            CHECKS.due("read() of net 0", x.read(), 0);
            CHECKS.due("over", x.log(0, 3), 1);
            CHECKS.due("range behind an over", x.get(SlopeMeter.RANGE), 0);
        }
    }

    /** Promise 10. The last time is reached here by more calls than an object is promised for. */
    private static void pass() {
        SlopeMeter x = new SlopeMeter();
        CHECKS.due("pass(1)", x.pass(1), 1);
        CHECKS.due("pass(100000)", x.pass(100000), 100001);
        for (int bad : new int[] {0, -1, 100001, Integer.MIN_VALUE, Integer.MAX_VALUE}) {
            CHECKS.due("pass(" + bad + ")", x.pass(bad), BAD);
        }
        CHECKS.due("count(0)", x.count(0), 100001);
        for (int i = 0; i < 9998; i++) {
            x.pass(100000);
        }
        CHECKS.due("time", x.count(0), 999900001);
        CHECKS.due("pass(100000) at the end", x.pass(100000), SlopeMeter.NOT_POSSIBLE);
        CHECKS.due("pass(99999) at the end", x.pass(99999), 1000000000);
        CHECKS.due("pass(1) at the end", x.pass(1), SlopeMeter.NOT_POSSIBLE);
        CHECKS.due("pass(0) at the end", x.pass(0), BAD);
        x.read();
        CHECKS.due("a reading goes beyond", x.count(0), 1000000100);
        CHECKS.due("pass(1) beyond", x.pass(1), SlopeMeter.NOT_POSSIBLE);
    }

    /** Promise 11. */
    private static void log() {
        SlopeMeter x = meter(4, 0);
        for (int reading = 0; reading < 40; reading++) {
            x.setLevel(reading * 16384);
            x.read();
        }
        CHECKS.due("log(0, 0)", x.log(0, 0), 0);
        CHECKS.due("log(39, 0)", x.log(39, 0), 39 * 16384);
        CHECKS.due("log(40, 0)", x.log(40, 0), Checks.gone(NONE));
        x.setLevel(-16384);
        x.set(SlopeMeter.RANGE, 1);
        x.read();
        CHECKS.due("log(0, 0) any more", x.log(0, 0), Checks.gone(NONE));
        CHECKS.due("log(1, 0)", x.log(1, 0), 16384);
        CHECKS.due("log(1, 1)", x.log(1, 1), 1);
        CHECKS.due("log(1, 2)", x.log(1, 2), 0);
        CHECKS.due("log(40, 0)", x.log(40, 0), -16384);
        CHECKS.due("log(40, 1)", x.log(40, 1), -10);
        CHECKS.due("log(40, 2)", x.log(40, 2), 1);
        CHECKS.due("log(40, 3)", x.log(40, 3), 0);
        CHECKS.due("log(40, 5)", x.log(40, 5), x.count(0));
        CHECKS.due("log(40, 4)", x.log(40, 4), x.count(0) - 4 - 1 - 6);
        CHECKS.due("log(40, 6)", x.log(40, 6), 0);
        CHECKS.due("log(-1, 0)", x.log(-1, 0), Checks.gone(NONE));
        for (int extreme : EXTREMES) {
            CHECKS.due("log(" + extreme + ", 0)", x.log(extreme, 0), Checks.gone(NONE));
            CHECKS.due("log(1, " + extreme + ")", x.log(1, extreme), Checks.gone(BAD));
            CHECKS.due("log(" + extreme + ", 7)", x.log(extreme, 7), Checks.gone(BAD));
        }
        CHECKS.due("log(1, 7)", x.log(1, 7), Checks.gone(BAD));
        CHECKS.due("log(1, -1)", x.log(1, -1), Checks.gone(BAD));
        CHECKS.due("log(0, 7)", x.log(0, 7), Checks.gone(BAD));
    }

    /** Promise 12. */
    private static void latest() {
        SlopeMeter x = meter(4, 300000);
        x.setOffset(100000, 0);
        CHECKS.due("latest(7) before", x.latest(7), Checks.gone(BAD));
        CHECKS.due("latest(-1) before", x.latest(-1), Checks.gone(BAD));
        x.wouldRead(5);
        x.pass(3);
        CHECKS.due("latest(0) before", x.latest(0), Checks.gone(SlopeMeter.NOT_POSSIBLE));
        x.zero();
        CHECKS.due("latest(0) of a zero", x.latest(0), 6);
        x.read();
        CHECKS.due("latest(0) of a reading", x.latest(0), 24);
        x.wouldRead(5);
        x.settle();
        CHECKS.due("latest(0) after what-ifs", x.latest(0), 24);
        CHECKS.due("latest(7)", x.latest(7), Checks.gone(BAD));
        for (int extreme : EXTREMES) {
            CHECKS.due("latest(" + extreme + ")", x.latest(extreme), Checks.gone(BAD));
        }
    }

    /** Promise 13. */
    private static void statistic() {
        SlopeMeter x = meter(4, 0);
        int[] levels = {5, -3, -2, 4, -1};
        for (int level : levels) {
            x.setLevel(level * 16384);
            x.read();
        }
        long[][] want = {{5, -3 * 16384, 5 * 16384, 9830, 0}, {4, -3 * 16384, 4 * 16384, -8192, 0},
            {3, -2 * 16384, 4 * 16384, 5461, 0}, {2, -16384, 4 * 16384, 24576, 0}, {1, -16384, -16384, -16384, 0}};
        for (int from = 0; from < 5; from++) {
            for (int what = 0; what < 5; what++) {
                CHECKS.due("statistic(" + from + ", " + what + ")", x.statistic(from, what), want[from][what]);
            }
        }
        for (int from : new int[] {5, 6, Integer.MAX_VALUE}) {
            CHECKS.due("statistic(" + from + ", 0)", x.statistic(from, 0), 0);
            CHECKS.due("statistic(" + from + ", 4)", x.statistic(from, 4), 0);
            for (int what = 1; what < 4; what++) {
                CHECKS.due("statistic(" + from + ", " + what + ")", x.statistic(from, what), Checks.gone(NONE));
            }
            CHECKS.due("statistic(" + from + ", 5)", x.statistic(from, 5), Checks.gone(BAD));
        }
        for (int bad : new int[] {-1, 5, Integer.MIN_VALUE, Integer.MAX_VALUE}) {
            CHECKS.due("statistic(0, " + bad + ")", x.statistic(0, bad), Checks.gone(BAD));
        }
        CHECKS.due("statistic(-1, 0)", x.statistic(-1, 0), Checks.gone(BAD));
        CHECKS.due("statistic(min, 4)", x.statistic(Integer.MIN_VALUE, 4), Checks.gone(BAD));
        statisticOfAFullLog();
        x.setLevel(0);
        Checks.say(x, "r37");
        x.run();
        CHECKS.due("number in the full log", x.statistic(0, 0), 40);
        CHECKS.due("greatest in the full log", x.statistic(0, 2), 4 * 16384);
        CHECKS.due("least in the full log", x.statistic(1, 1), -2 * 16384);
        CHECKS.due("number from 41", x.statistic(41, 0), 1);
    }

    /** The oldest reading of a full log counts once, and no older one counts. */
    private static void statisticOfAFullLog() {
        for (int sign = -1; sign <= 1; sign += 2) {
            SlopeMeter x = meter(4, -sign * 8 * 16384);
            x.read();
            x.read();
            x.setLevel(sign * 4 * 16384);
            x.read();
            x.setLevel(0);
            Checks.say(x, "r39");
            x.run();
            CHECKS.due("number", x.statistic(0, 0), 40);
            CHECKS.due("mean", x.statistic(0, 3), sign * 4 * 16384 / 40);
            CHECKS.due("least", x.statistic(0, 1), Math.min(0, sign * 4 * 16384));
            CHECKS.due("greatest", x.statistic(0, 2), Math.max(0, sign * 4 * 16384));
            CHECKS.due("number behind the oldest", x.statistic(3, 0), 39);
            CHECKS.due("mean behind the oldest", x.statistic(3, 3), 0);
            CHECKS.due("least behind the oldest", x.statistic(3, 1), 0);
            CHECKS.due("greatest behind the oldest", x.statistic(3, 2), 0);
        }
    }

    /** The mean is truncated toward 0, and overs count from a reading on. */
    private static void statisticOfOvers() {
        SlopeMeter x = meter(4, 2500000);
        x.set(SlopeMeter.MODE, SlopeMeter.MULTI);
        x.set(SlopeMeter.SLOT, 50);
        x.read();
        x.read();
        x.setLevel(0);
        x.read();
        x.setLevel(2500000);
        x.read();
        CHECKS.due("log(3, 3)", x.log(3, 3), 1);
        CHECKS.due("statistic(0, 4)", x.statistic(0, 4), 3);
        CHECKS.due("statistic(1, 4)", x.statistic(1, 4), 2);
        CHECKS.due("statistic(2, 4)", x.statistic(2, 4), 1);
        CHECKS.due("statistic(4, 4)", x.statistic(4, 4), 0);
        SlopeMeter y = meter(4, 0);
        y.read();
        y.read();
        y.setLevel(-16384);
        y.read();
        CHECKS.due("mean truncated toward 0", y.statistic(0, 3), -5461);
    }

    /** Promise 8: 10000 readings and not one more; a what-if is not limited. */
    private static void tooManyReadings() {
        SlopeMeter x = meter(4, 16384);
        String most = "r99,r99,r99,r99,r99,r99,r99,r99,r99,r99,r99,r99,r99,r99,r99";
        for (int i = 0; i < 6; i++) {
            Checks.say(x, most);
            CHECKS.due("run() of 1485", x.run(), 1485);
        }
        Checks.say(x, most);
        CHECKS.due("run() of too many", x.run(), SlopeMeter.TOO_MANY);
        CHECKS.due("readings then", x.count(1), 8910);
        CHECKS.due("pad then", x.wipe(), 59);
        Checks.say(x, "r99,r99,r99,r99,r99,r99,r99,r99,r99,r99,r99");
        CHECKS.due("run() of 1089", x.run(), 1089);
        Checks.say(x, "r,r");
        CHECKS.due("run() of one too many", x.run(), SlopeMeter.TOO_MANY);
        x.wipe();
        CHECKS.due("read() of the last", x.read(), 16384);
        CHECKS.due("setLevel() tells 10000", x.setLevel(32768), 10000);
        CHECKS.due("read() of one too many", x.read(), Checks.gone(SlopeMeter.TOO_MANY));
        CHECKS.due("readings", x.count(1), 10000);
        CHECKS.due("log(9999, 0)", x.log(9999, 0), 16384);
        CHECKS.due("log(9960, 0)", x.log(9960, 0), 16384);
        CHECKS.due("log(9959, 0)", x.log(9959, 0), Checks.gone(NONE));
        CHECKS.due("wouldRead(32768)", x.wouldRead(32768), 32768);
        CHECKS.due("settle()", x.settle(), 0);
        Checks.say(x, "l5,w7,z");
        CHECKS.due("run() without readings", x.run(), 0);
        CHECKS.due("level", x.count(2), 10000005);
    }
}
