/** The boundary cases of "READINGS", and of promises 8 to 10 and 12. */
public final class ReadingEdgesTest {
    private static final Checks CHECKS = new Checks("ReadingEdgesTest");
    private static final int BAD = SlopeMeter.BAD_VALUE;
    private static final int NOT_POSSIBLE = SlopeMeter.NOT_POSSIBLE;
    private static final int NONE = SlopeMeter.NONE;

    public static void main(String[] args) {
        firstReading();
        zeroHasNoInput();
        zeroIsNoReading();
        zeroEveryNth();
        zeroNever();
        zeroEveryNthAfterAProgram();
        zeroSetInTheMidst();
        valueTruncates();
        valueInEachRange();
        greatestValues();
        rangeEdges();
        rangeEnds();
        rangeOfAnOver();
        rangeStaysWithoutAuto();
        passEnds();
        passAtTheLastTime();
        latestBeforeAllConversions();
        latestWhat();
        lastReadings();
        CHECKS.finish();
    }

    /** "The readings are numbered from 0", and "the zero is 0 initially". */
    private static void firstReading() {
        SlopeMeter x = States.meter(4, 16384);
        x.setOffset(16384, 0);
        CHECKS.due("log(0, 0) before", x.log(0, 0), Checks.gone(NONE));
        CHECKS.due("read()", x.read(), 32768);
        long[] want = {32768, 2, 0, 0, 0, 4 + 1 + 14, 0};
        for (int what = 0; what < 7; what++) {
            CHECKS.due("log(0, " + what + ")", x.log(0, what), want[what]);
            CHECKS.due("log(1, " + what + ")", x.log(1, what), Checks.gone(NONE));
        }
    }

    /** "A zero conversion is one in which the input is 0 in all ticks": the offset is not. */
    private static void zeroHasNoInput() {
        for (int range = 0; range < 4; range++) {
            SlopeMeter x = States.meter(4, -3000000);
            x.setHum(1000000, 4);
            x.set(SlopeMeter.RANGE, range);
            CHECKS.due("zero() without offset in range " + range, x.zero(), 10000000);
            CHECKS.due("latest(5)", x.latest(5), 0);
            x.setOffset(16384, 0);
            CHECKS.due("zero() in range " + range, x.zero(), 10000001);
            CHECKS.due("latest(5)", x.latest(5), 1048576 - 65536);
            x.setOffset(-16384, 0);
            CHECKS.due("zero() below 0 in range " + range, x.zero(), 9999999);
            CHECKS.due("count(3)", x.count(3), 9999999);
            CHECKS.due("get(RANGE)", x.get(SlopeMeter.RANGE), range);
        }
    }

    /** "It is not a reading": no number, no place in the log, no range, no step to the next due zero conversion. */
    private static void zeroIsNoReading() {
        SlopeMeter x = States.meter(4, 0);
        x.set(SlopeMeter.AUTO, 1);
        x.set(SlopeMeter.ZERO, 3);
        x.zero();
        CHECKS.due("count(1)", x.count(1), 0);
        CHECKS.due("count(4)", x.count(4), 0);
        CHECKS.due("log(0, 0)", x.log(0, 0), Checks.gone(NONE));
        CHECKS.due("statistic(0, 0)", x.statistic(0, 0), 0);
        CHECKS.due("get(RANGE)", x.get(SlopeMeter.RANGE), 0);
        x.read();
        x.zero();
        CHECKS.due("count(1) after a reading", x.count(1), 1);
        CHECKS.due("count(4) after a reading", x.count(4), 2);
        CHECKS.due("get(RANGE) after a reading", x.get(SlopeMeter.RANGE), 1);
    }

    /** "one is due at the first reading, and then at each ZERO-th reading after": seen by the ticks. */
    private static void zeroEveryNth() {
        for (int every = 1; every <= 10; every++) {
            SlopeMeter x = States.meter(4, 0);
            x.read();
            x.set(SlopeMeter.ZERO, every);
            for (int reading = 0; reading < 2 * every + 2; reading++) {
                String call = "ZERO " + every + ", reading " + reading;
                CHECKS.due(call + ": count(4)", x.count(4), (every - reading % every) % every);
                int before = x.count(0);
                x.read();
                int ticks = reading % every == 0 ? 8 : 4;
                CHECKS.due(call + ": ticks", x.count(0) - before, ticks);
                CHECKS.due(call + ": log(.., 4)", x.log(reading + 1, 4), before + ticks - 4);
            }
        }
    }

    /** "With ZERO equal to 0, zero conversions are never due": the zero of before is still subtracted. */
    private static void zeroNever() {
        SlopeMeter x = States.meter(4, 0);
        x.setOffset(16384, 0);
        x.zero();
        int time = x.count(0);
        for (int reading = 0; reading < 12; reading++) {
            CHECKS.due("count(4)", x.count(4), NONE);
            CHECKS.due("read()", x.read(), 0);
            CHECKS.due("log(.., 6)", x.log(reading, 6), 1);
        }
        CHECKS.due("time", x.count(0), time + 12 * (4 + 1 + 15));
    }

    private static void zeroEveryNthAfterAProgram() {
        SlopeMeter x = States.meter(4, 0);
        x.set(SlopeMeter.ZERO, 10);
        Checks.say(x, "r9,z");
        x.run();
        CHECKS.due("count(4) after 9", x.count(4), 1);
        Checks.say(x, "r");
        x.run();
        CHECKS.due("count(4) after 10", x.count(4), 0);
        CHECKS.due("time", x.count(0), 4 * (10 + 2));
        Checks.say(x, "r21");
        x.run();
        CHECKS.due("count(4) after 31", x.count(4), 9);
        CHECKS.due("time then", x.count(0), 4 * (31 + 1 + 4));
    }

    /** A smaller ZERO than readings have passed, or a greater one: it begins anew in both cases. */
    private static void zeroSetInTheMidst() {
        for (int every : new int[] {1, 2, 10}) {
            SlopeMeter x = States.meter(4, 0);
            x.set(SlopeMeter.ZERO, 5);
            for (int i = 0; i < 4; i++) {
                x.read();
            }
            CHECKS.due("count(4)", x.count(4), 1);
            CHECKS.due("set(ZERO, " + every + ")", x.set(SlopeMeter.ZERO, every), 5);
            CHECKS.due("count(4) anew", x.count(4), 0);
            int before = x.count(0);
            x.read();
            CHECKS.due("ticks", x.count(0) - before, 8);
            CHECKS.due("count(4) then", x.count(4), every - 1);
        }
    }

    /** "Its value is net counts * 65536 / (WINDOW * gain)", truncated toward 0 on both sides. */
    private static void valueTruncates() {
        for (int sign = -1; sign <= 1; sign += 2) {
            // 7 * 9363 is 5 more than 65536, and 65536 / 7 is 9362.3
            SlopeMeter x = States.meter(7, sign * 9363);
            CHECKS.due("read() of one count", x.read(), sign * 9362);
            CHECKS.due("log(0, 1)", x.log(0, 1), sign);
            x.setLevel(sign * 9362);
            CHECKS.due("read() of no count", x.read(), 0);
            CHECKS.due("log(1, 1)", x.log(1, 1), 0);
            // 7 * 10 * 937 is 54 more than 65536, and 65536 / 70 is 936.2
            x.set(SlopeMeter.RANGE, 1);
            x.setLevel(sign * 937);
            CHECKS.due("read() of one count in range 1", x.read(), sign * 936);
            // 65536 / 7000 is 9.4
            x.set(SlopeMeter.RANGE, 3);
            x.setLevel(sign * 10);
            CHECKS.due("read() of one count in range 3", x.read(), sign * 9);
            x.setLevel(sign * 9);
            CHECKS.due("read() of no count in range 3", x.read(), 0);
        }
        // -1 less a zero of 1 are -2 counts: 18724.6
        SlopeMeter y = States.meter(7, 0);
        y.setOffset(9363, 0);
        y.zero();
        y.setOffset(-9363, 0);
        CHECKS.due("read() less a zero", y.read(), -18724);
        CHECKS.due("log(0, 1)", y.log(0, 1), -2);
        CHECKS.due("latest(0)", y.latest(0), -1);
    }

    private static void valueInEachRange() {
        int gain = 1;
        for (int range = 0; range < 4; range++) {
            SlopeMeter x = States.meter(4, 2000);
            x.set(SlopeMeter.RANGE, range);
            x.read();
            long net = 4L * 2000 * gain / 65536;
            CHECKS.due("net in range " + range, x.log(0, 1), net);
            CHECKS.due("value in range " + range, x.log(0, 0), net * 65536 / (4L * gain));
            CHECKS.due("log(0, 2)", x.log(0, 2), range);
            gain *= 10;
        }
    }

    /** The greatest net counts: the zero is as far below 0 as the counts are above; then it is of another window. */
    private static void greatestValues() {
        for (int sign = -1; sign <= 1; sign += 2) {
            SlopeMeter x = States.meter(400, 0);
            for (int i = 0; i < 6; i++) {
                x.pass(100000);
            }
            x.setOffset(-sign * 100000, -sign * 1000);
            CHECKS.due("zero()", x.zero(), 10000000 - sign * 3051);
            x.setOffset(sign * 100000, sign * 1000);
            x.setLevel(sign * 3000000);
            CHECKS.due("read()", x.read(), sign * 21361L * 65536 / 400);
            CHECKS.due("log(0, 1)", x.log(0, 1), sign * 21361);
            x.set(SlopeMeter.WINDOW, 4);
            CHECKS.due("read() of the window 4", x.read(), sign * (183L + 3051) * 65536 / 4);
            CHECKS.due("log(1, 1)", x.log(1, 1), sign * 3234);
        }
    }

    /** "greater than 16 * WINDOW", "less than 16 * WINDOW / 12": just inside, at and just beyond, on both sides. */
    private static void rangeEdges() {
        for (int window : new int[] {4, 5, 6, 7, 9, 10, 11, 12, 100, 399, 400}) {
            int full = 16 * window;
            int[][] rows = {{full - 1, 1}, {full, 1}, {full + 1, 0}, {full / 12 + 1, 1}, {full / 12, 1}, {full / 12 - 1, 2}};
            for (int[] r : rows) {
                for (int sign = -1; sign <= 1; sign += 2) {
                    // the least level of so many counts in range 1
                    int level = (r[0] * 65536 + window * 10 - 1) / (window * 10);
                    SlopeMeter x = States.meter(window, sign * level);
                    x.set(SlopeMeter.AUTO, 1);
                    x.set(SlopeMeter.RANGE, 1);
                    x.read();
                    String run = "window " + window + ", net " + sign * r[0];
                    CHECKS.due(run + ": log(0, 1)", x.log(0, 1), sign * r[0]);
                    CHECKS.due(run + ": get(RANGE)", x.get(SlopeMeter.RANGE), r[1]);
                    CHECKS.due(run + ": log(0, 2)", x.log(0, 2), 1);
                }
            }
        }
    }

    /** "(if it is not 0)" and "(if it is not 3)". */
    private static void rangeEnds() {
        for (int sign = -1; sign <= 1; sign += 2) {
            for (int range = 0; range < 4; range++) {
                SlopeMeter x = States.meter(4, sign * 3000000);
                x.set(SlopeMeter.AUTO, 1);
                x.set(SlopeMeter.RANGE, range);
                x.read();
                CHECKS.due("range behind too much in " + range, x.get(SlopeMeter.RANGE), Math.max(range - 1, 0));
                x.setLevel(0);
                x.set(SlopeMeter.RANGE, range);
                x.read();
                CHECKS.due("range behind nothing in " + range, x.get(SlopeMeter.RANGE), Math.min(range + 1, 3));
                // 63 counts are neither too much nor too little
                int[] levels = {1048000, 104800, 10480, 1048};
                x.setLevel(sign * levels[range]);
                x.set(SlopeMeter.RANGE, range);
                x.read();
                CHECKS.due("range behind 63 of 64 counts in " + range, x.get(SlopeMeter.RANGE), range);
            }
        }
    }

    /** "if its conversion was over the range": also if the net counts are few, and then it does not increase. */
    private static void rangeOfAnOver() {
        for (int range = 0; range < 4; range++) {
            // 84 * 100000 are 128.2 counts, and so are those of the over
            SlopeMeter x = States.meter(84, 2500000);
            x.setOffset(100000, 0);
            CHECKS.due("zero()", x.zero(), 10000128);
            x.setOffset(0, 0);
            x.set(SlopeMeter.WINDOW, 4);
            x.set(SlopeMeter.SLOT, 4);
            x.set(SlopeMeter.MODE, SlopeMeter.MULTI);
            x.set(SlopeMeter.AUTO, 1);
            x.set(SlopeMeter.RANGE, range);
            CHECKS.due("read()", x.read(), 0);
            CHECKS.due("log(0, 3)", x.log(0, 3), 1);
            CHECKS.due("range behind an over in " + range, x.get(SlopeMeter.RANGE), Math.max(range - 1, 0));
        }
    }

    private static void rangeStaysWithoutAuto() {
        for (int range = 0; range < 4; range++) {
            SlopeMeter x = States.meter(4, 0);
            x.set(SlopeMeter.RANGE, range);
            x.read();
            CHECKS.due("range behind nothing, without AUTO", x.get(SlopeMeter.RANGE), range);
            x.setLevel(3000000);
            x.read();
            CHECKS.due("range behind too much, without AUTO", x.get(SlopeMeter.RANGE), range);
        }
    }

    /** "ticks: 1 to 100000". */
    private static void passEnds() {
        SlopeMeter x = new SlopeMeter();
        int time = 0;
        for (int ticks : new int[] {1, 2, 99999, 100000}) {
            time += ticks;
            CHECKS.due("pass(" + ticks + ")", x.pass(ticks), time);
            CHECKS.due("count(0)", x.count(0), time);
            for (int refused : new int[] {0, -1, 100001, -100000, Integer.MIN_VALUE, Integer.MAX_VALUE}) {
                CHECKS.due("pass(" + refused + ")", x.pass(refused), BAD);
                CHECKS.due("time kept", x.count(0), time);
            }
        }
    }

    /** "NOT_POSSIBLE if the time would be greater than 1000000000": only more calls than are promised come there. */
    private static void passAtTheLastTime() {
        SlopeMeter x = new SlopeMeter();
        for (int i = 0; i < 9999; i++) {
            x.pass(100000);
        }
        CHECKS.due("pass(99999)", x.pass(99999), 999999999);
        CHECKS.due("pass(2)", x.pass(2), NOT_POSSIBLE);
        CHECKS.due("pass(100000)", x.pass(100000), NOT_POSSIBLE);
        CHECKS.due("pass(100001)", x.pass(100001), BAD);
        CHECKS.due("pass(0)", x.pass(0), BAD);
        CHECKS.due("time kept", x.count(0), 999999999);
        CHECKS.due("pass(1)", x.pass(1), 1000000000);
        CHECKS.due("pass(1) again", x.pass(1), NOT_POSSIBLE);
        CHECKS.due("time", x.count(0), 1000000000);
        CHECKS.due("probe(100000, 0)", x.probe(100000, 0), 0);
    }

    /** "NOT_POSSIBLE if there was no conversion": what-ifs are none, a zero conversion is one. */
    private static void latestBeforeAllConversions() {
        for (int what = 0; what < 7; what++) {
            SlopeMeter x = States.meter(4, 16384);
            x.save(0);
            x.wouldRead(1000);
            x.ripple(2);
            x.bestWindow(4, 1, 2);
            x.order(0, 1, 2, 0);
            x.levelFor(3);
            x.settle();
            Checks.say(x, "w5,l16384,g0");
            x.run();
            CHECKS.due("latest(" + what + ") after what-ifs", x.latest(what), Checks.gone(NOT_POSSIBLE));
            x.zero();
            CHECKS.due("latest(" + what + ") after zero()", x.latest(what), 0);
            x.restore(0);
            CHECKS.due("latest(" + what + ") as saved", x.latest(what), Checks.gone(NOT_POSSIBLE));
            x.read();
            long[] want = {1, 1, 15, 0, 0, 1048576 - 65536, 0};
            CHECKS.due("latest(" + what + ") after read()", x.latest(what), want[what]);
            x.restore(0);
            Checks.say(x, "z");
            x.run();
            CHECKS.due("latest(" + what + ") after z", x.latest(what), 0);
        }
    }

    /** "BAD_VALUE if what is not 0 to 6". */
    private static void latestWhat() {
        SlopeMeter x = States.meter(4, 16384);
        for (int conversions = 0; conversions < 2; conversions++) {
            for (int refused : new int[] {-1, -2, 7, 8, Integer.MIN_VALUE, Integer.MAX_VALUE}) {
                CHECKS.due("latest(" + refused + ")", x.latest(refused), Checks.gone(BAD));
            }
            x.read();
        }
    }

    /** "TOO_MANY if there were 10000 readings"; what-ifs "are not limited by this number". */
    private static void lastReadings() {
        SlopeMeter x = States.beforeTheLastReading();
        CHECKS.due("count(1) before the last", x.count(1), 9999);
        CHECKS.due("read() of the last", x.read(), 16384);
        CHECKS.due("count(1)", x.count(1), 10000);
        int time = x.count(0);
        CHECKS.due("read() of one too many", x.read(), Checks.gone(SlopeMeter.TOO_MANY));
        CHECKS.due("count(1) then", x.count(1), 10000);
        CHECKS.due("count(0) then", x.count(0), time);
        CHECKS.due("wouldRead(32768)", x.wouldRead(32768), 32768);
        CHECKS.due("ripple(16)", x.ripple(16), 0);
        CHECKS.due("levelFor(16384)", x.levelFor(16384), 16384);
        CHECKS.due("order(0, 16384, 3, 1)", x.order(0, 16384, 3, 1), 0);
        CHECKS.due("bestWindow(4, 1, 2)", x.bestWindow(4, 1, 2), 4);
        CHECKS.due("settle()", x.settle(), 0);
        CHECKS.due("zero()", x.zero(), 10000000);
        CHECKS.due("restore(0)", x.restore(0), 8910);
        CHECKS.due("read() as saved", x.read(), 16384);
        CHECKS.due("count(1) as saved", x.count(1), 8911);
    }
}
