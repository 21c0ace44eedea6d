/** The boundary cases of promises 11 and 13: an empty log, a full one, and one that keeps its first reading no more. */
public final class LogEdgesTest {
    private static final Checks CHECKS = new Checks("LogEdgesTest");
    private static final int BAD = SlopeMeter.BAD_VALUE;
    private static final int NONE = SlopeMeter.NONE;
    private static final int COUNT = 16384;

    public static void main(String[] args) {
        emptyLog();
        emptyLogStatistic();
        for (int readings : new int[] {1, 2, 39, 40, 41, 42, 79, 80, 81}) {
            logOf(readings);
            statisticOf(readings);
        }
        logBehindTenThousand();
        logWhat();
        logErrorsInOrder();
        meanTruncates();
        leastAndGreatest();
        overs();
        oversWithoutReadings();
        whatIfsAreNotLogged();
        CHECKS.finish();
    }

    /** Reading k has the value sign * k * COUNT, and takes the ticks of the window and of its phases. */
    private static SlopeMeter meterWith(int readings, int sign) {
        SlopeMeter x = States.meter(4, 0);
        for (int k = 0; k < readings; k++) {
            x.setLevel(sign * k * COUNT);
            x.read();
        }
        return x;
    }

    /** "NONE if there is no such reading". */
    private static void emptyLog() {
        SlopeMeter x = new SlopeMeter();
        x.zero();
        for (int what = 0; what < 7; what++) {
            for (int reading : new int[] {0, 1, -1, 39, 40, -40, 9999, Integer.MIN_VALUE, Integer.MAX_VALUE}) {
                CHECKS.due("log(" + reading + ", " + what + ")", x.log(reading, what), Checks.gone(NONE));
            }
        }
    }

    /** "NONE for 1 to 3 if there are none", and 0 for the others. */
    private static void emptyLogStatistic() {
        SlopeMeter x = new SlopeMeter();
        x.zero();
        for (int from : new int[] {0, 1, 40, Integer.MAX_VALUE}) {
            for (int what = 0; what < 5; what++) {
                long want = what == 0 || what == 4 ? 0 : Checks.gone(NONE);
                CHECKS.due("statistic(" + from + ", " + what + ") of an empty log", x.statistic(from, what), want);
            }
        }
    }

    /** "The log keeps the latest 40": around its first, and around its last reading. */
    private static void logOf(int readings) {
        SlopeMeter x = meterWith(readings, 1);
        int first = Math.max(0, readings - 40);
        String run = readings + " readings: ";
        for (int reading : new int[] {first, first + 1, readings - 2, readings - 1}) {
            if (reading < first || reading >= readings) {
                continue;
            }
            CHECKS.due(run + "value of " + reading, x.log(reading, 0), (long) reading * COUNT);
            CHECKS.due(run + "net of " + reading, x.log(reading, 1), reading);
            // k counts take k / 16 ticks and one more for a rest of k mod 16, then 16 less the rest
            int down = (reading + 15) / 16;
            CHECKS.due(run + "ticks of " + reading, x.log(reading, 5) - x.log(reading, 4), 4 + down + 16 * down - reading);
        }
        CHECKS.due(run + "the last ends now", x.log(readings - 1, 5), x.count(0));
        for (int what = 0; what < 7; what++) {
            for (int reading : new int[] {first - 1, -1, readings, readings + 1, readings + 39, readings - 80,
                    Integer.MIN_VALUE, Integer.MAX_VALUE}) {
                if (reading < first || reading >= readings) {
                    CHECKS.due(run + "log(" + reading + ", " + what + ")", x.log(reading, what), Checks.gone(NONE));
                }
            }
        }
    }

    /** "those before the log begins do not count": from before, at and behind its first reading, and around its end. */
    private static void statisticOf(int readings) {
        int begin = Math.max(0, readings - 40);
        for (int sign = -1; sign <= 1; sign += 2) {
            SlopeMeter x = meterWith(readings, sign);
            int[] froms = {0, begin - 1, begin, begin + 1, readings - 2, readings - 1, readings, readings + 1, Integer.MAX_VALUE};
            for (int from : froms) {
                if (from < 0) {
                    continue;
                }
                int first = Math.max(from, begin);
                int number = Math.max(0, readings - first);
                long one = (long) sign * first * COUNT;
                long other = (long) sign * (readings - 1) * COUNT;
                // the mean of a row of equal steps is that of its ends
                long[] want = {number, Math.min(one, other), Math.max(one, other), (one + other) / 2, 0};
                for (int what = 0; what < 5; what++) {
                    boolean isNone = number == 0 && what >= 1 && what <= 3;
                    CHECKS.due(readings + " readings: statistic(" + from + ", " + what + ")", x.statistic(from, what),
                            isNone ? Checks.gone(NONE) : want[what]);
                }
            }
        }
    }

    private static void logBehindTenThousand() {
        SlopeMeter x = States.beforeTheLastReading();
        CHECKS.due("log(9958, 0)", x.log(9958, 0), Checks.gone(NONE));
        CHECKS.due("log(9959, 0)", x.log(9959, 0), COUNT);
        CHECKS.due("log(9998, 0)", x.log(9998, 0), COUNT);
        CHECKS.due("log(9999, 0)", x.log(9999, 0), Checks.gone(NONE));
        x.setLevel(2 * COUNT);
        x.read();
        CHECKS.due("log(9959, 0) then", x.log(9959, 0), Checks.gone(NONE));
        CHECKS.due("log(9960, 0) then", x.log(9960, 0), COUNT);
        CHECKS.due("log(9999, 0) then", x.log(9999, 0), 2 * COUNT);
        CHECKS.due("log(10000, 0) then", x.log(10000, 0), Checks.gone(NONE));
        CHECKS.due("statistic(0, 0)", x.statistic(0, 0), 40);
        CHECKS.due("statistic(9999, 1)", x.statistic(9999, 1), 2 * COUNT);
        CHECKS.due("statistic(10000, 0)", x.statistic(10000, 0), 0);
        CHECKS.due("statistic(9959, 3)", x.statistic(9959, 3), COUNT + COUNT / 40);
    }

    /** "BAD_VALUE if what is not 0 to 6", and each of the seven numbers. */
    private static void logWhat() {
        SlopeMeter x = States.meter(4, 300000);
        x.setOffset(100000, 0);
        x.set(SlopeMeter.ZERO, 1);
        x.set(SlopeMeter.RANGE, 1);
        x.setLevel(30000);
        x.pass(100);
        x.read();
        // 6 counts of the zero in 15 ticks, and 24 counts in 4 + 2 + 8
        long[] want = {18 * 65536 / 40, 18, 1, 0, 115, 129, 6};
        for (int what = 0; what < 7; what++) {
            CHECKS.due("log(0, " + what + ")", x.log(0, what), want[what]);
        }
        for (int refused : new int[] {-1, -7, 7, 8, Integer.MIN_VALUE, Integer.MAX_VALUE}) {
            CHECKS.due("log(0, " + refused + ")", x.log(0, refused), Checks.gone(BAD));
        }
    }

    /** "NONE is not an error; it is returned only if no error applies." */
    private static void logErrorsInOrder() {
        for (int readings : new int[] {0, 1, 41}) {
            SlopeMeter x = meterWith(readings, 1);
            for (int what : new int[] {-1, 7, Integer.MIN_VALUE, Integer.MAX_VALUE}) {
                for (int reading : new int[] {-1, 0, readings - 1, readings, Integer.MIN_VALUE, Integer.MAX_VALUE}) {
                    CHECKS.due("log(" + reading + ", " + what + ")", x.log(reading, what), Checks.gone(BAD));
                }
            }
            for (int from : new int[] {-1, Integer.MIN_VALUE}) {
                for (int what = -1; what < 6; what++) {
                    CHECKS.due("statistic(" + from + ", " + what + ")", x.statistic(from, what), Checks.gone(BAD));
                }
            }
            for (int what : new int[] {-1, 5, Integer.MIN_VALUE, Integer.MAX_VALUE}) {
                for (int from : new int[] {0, readings, Integer.MAX_VALUE}) {
                    CHECKS.due("statistic(" + from + ", " + what + ")", x.statistic(from, what), Checks.gone(BAD));
                }
            }
        }
    }

    /** "the mean (their sum / their number)": 16384 / 3 is 5461.3. */
    private static void meanTruncates() {
        for (int sign = -1; sign <= 1; sign += 2) {
            SlopeMeter x = States.meter(4, 0);
            x.read();
            x.read();
            x.setLevel(sign * COUNT);
            x.read();
            CHECKS.due("mean of a third", x.statistic(0, 3), sign * 5461);
            CHECKS.due("mean of a half", x.statistic(1, 3), sign * 8192);
            CHECKS.due("mean of the whole", x.statistic(2, 3), sign * COUNT);
            x.setLevel(-sign * COUNT);
            x.read();
            CHECKS.due("mean of nothing", x.statistic(0, 3), 0);
        }
    }

    /** The least and the greatest are the first, one in the midst, or the last, on either side of 0. */
    private static void leastAndGreatest() {
        int[][] rows = {{5, 3, 4}, {3, 5, 4}, {4, 3, 5}, {3, 4, 5}, {-5, -3, -4}, {-3, -5, -4}, {-4, -3, -5}, {-1, 0, 1}, {1, 0, -1}};
        for (int[] r : rows) {
            SlopeMeter x = States.meter(4, 0);
            for (int value : r) {
                x.setLevel(value * COUNT);
                x.read();
            }
            int least = Math.min(r[0], Math.min(r[1], r[2]));
            int greatest = Math.max(r[0], Math.max(r[1], r[2]));
            CHECKS.due("least", x.statistic(0, 1), least * COUNT);
            CHECKS.due("greatest", x.statistic(0, 2), greatest * COUNT);
            CHECKS.due("least from 1", x.statistic(1, 1), Math.min(r[1], r[2]) * COUNT);
            CHECKS.due("greatest from 1", x.statistic(1, 2), Math.max(r[1], r[2]) * COUNT);
            CHECKS.due("least from 2", x.statistic(2, 1), r[2] * COUNT);
            CHECKS.due("greatest from 2", x.statistic(2, 2), r[2] * COUNT);
        }
    }

    /** "the number of readings whose conversions were over the range": the oldest one kept, and one kept no more. */
    private static void overs() {
        SlopeMeter x = States.meter(4, 2500000);
        x.set(SlopeMeter.MODE, SlopeMeter.MULTI);
        x.set(SlopeMeter.SLOT, 4);
        x.read();
        x.read();
        x.setLevel(2000000);
        Checks.say(x, "r38");
        x.run();
        int[] want = {2, 1, 0};
        for (int from = 0; from < want.length; from++) {
            CHECKS.due("overs of a full log from " + from, x.statistic(from, 4), want[from]);
        }
        x.read();
        CHECKS.due("overs when the first is kept no more", x.statistic(0, 4), 1);
        CHECKS.due("log(0, 3)", x.log(0, 3), Checks.gone(NONE));
        CHECKS.due("log(1, 3)", x.log(1, 3), 1);
        CHECKS.due("log(2, 3)", x.log(2, 3), 0);
        x.setLevel(2500000);
        x.read();
        CHECKS.due("overs when a new one came", x.statistic(0, 4), 1);
        CHECKS.due("overs of the new one", x.statistic(41, 4), 1);
        CHECKS.due("overs behind the new one", x.statistic(42, 4), 0);
        x.wouldRead(2500000);
        x.zero();
        CHECKS.due("overs as before", x.statistic(0, 4), 1);
    }

    private static void oversWithoutReadings() {
        SlopeMeter x = States.meter(4, 2500000);
        CHECKS.due("overs of no reading", x.statistic(0, 4), 0);
        x.read();
        CHECKS.due("overs of a reading at the limit of its input", x.statistic(0, 4), 0);
        CHECKS.due("overs from behind it", x.statistic(1, 4), 0);
    }

    private static void whatIfsAreNotLogged() {
        SlopeMeter x = meterWith(3, 1);
        x.wouldRead(9 * COUNT);
        x.settle();
        x.order(0, 1, 2, 0);
        CHECKS.due("number", x.statistic(0, 0), 3);
        CHECKS.due("greatest", x.statistic(0, 2), 2 * COUNT);
        CHECKS.due("log(3, 0)", x.log(3, 0), Checks.gone(NONE));
    }
}
