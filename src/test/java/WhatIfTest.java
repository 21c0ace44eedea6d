/** Promises 14 to 19: what-ifs, which change nothing. */
public final class WhatIfTest {
    private static final Checks CHECKS = new Checks("WhatIfTest");
    private static final int BAD = SlopeMeter.BAD_VALUE;
    private static final int NONE = SlopeMeter.NONE;
    private static final int[] EXTREMES = {Integer.MIN_VALUE, Integer.MAX_VALUE};

    public static void main(String[] args) {
        wouldRead();
        ripple();
        rippleOfDrift();
        bestWindow();
        bestWindowWithHum();
        bestWindowIsOfRipple8();
        order();
        levelFor();
        levelForWrongInputs();
        settle();
        settleNever();
        settleAtTheLimit();
        nothingChanges();
        CHECKS.finish();
    }

    private static SlopeMeter meter(int window, int level) {
        SlopeMeter x = new SlopeMeter();
        x.set(SlopeMeter.WINDOW, window);
        x.setLevel(level);
        return x;
    }

    /** Promise 14. */
    private static void wouldRead() {
        SlopeMeter x = meter(4, 77);
        CHECKS.due("wouldRead(300000)", x.wouldRead(300000), 18 * 16384);
        CHECKS.due("wouldRead(3000000)", x.wouldRead(3000000), 152 * 16384);
        CHECKS.due("wouldRead(-3000000)", x.wouldRead(-3000000), -152 * 16384);
        CHECKS.due("wouldRead(3000001)", x.wouldRead(3000001), Checks.gone(BAD));
        CHECKS.due("wouldRead(-3000001)", x.wouldRead(-3000001), Checks.gone(BAD));
        for (int extreme : EXTREMES) {
            CHECKS.due("wouldRead(" + extreme + ")", x.wouldRead(extreme), Checks.gone(BAD));
        }
        x.setOffset(100000, 0);
        CHECKS.due("with the offset", x.wouldRead(300000), 24 * 16384);
        x.set(SlopeMeter.ZERO, 2);
        CHECKS.due("with a zero conversion", x.wouldRead(300000), 18 * 16384);
        CHECKS.due("still due", x.count(4), 0);
        CHECKS.due("zero", x.count(3), 10000000);
        x.read();
        x.setOffset(0, 0);
        CHECKS.due("with the zero of before", x.wouldRead(300000), 12 * 16384);
        x.set(SlopeMeter.RANGE, 2);
        CHECKS.due("in the range 2", x.wouldRead(3000), 12 * 65536 / 400);
        CHECKS.due("level", x.count(2), 10000077);
    }

    /** Promise 15: with the window 4 and the period 16, the copies begin 4 ticks apart. */
    private static void ripple() {
        SlopeMeter x = meter(4, 0);
        x.setHum(65536, 16);
        // hum: 0, 1, 2, 3, 4, 3, 2, 1, 0, -1, .. times 16384
        CHECKS.due("ripple(1)", x.ripple(1), 0);
        // 0 + 1 + 2 + 3 counts and less 6 counts, over 4 ticks of 65536
        CHECKS.due("ripple(2)", x.ripple(2), 2 * 16384);
        // 4 + 3 + 2 + 1 is 2.5 counts; 2.5 is 2, and -2.5 is -2
        CHECKS.due("ripple(4)", x.ripple(4), 4 * 16384);
        // starts at 0, 5 and 10: 1.5, 1.5 and -3 counts
        CHECKS.due("ripple(3)", x.ripple(3), 4 * 16384);
        x.pass(4);
        CHECKS.due("ripple(2) from 4 on", x.ripple(2), 4 * 16384);
        CHECKS.due("ripple(0)", x.ripple(0), Checks.gone(BAD));
        CHECKS.due("ripple(17)", x.ripple(17), Checks.gone(BAD));
        CHECKS.due("ripple(-1)", x.ripple(-1), Checks.gone(BAD));
        for (int extreme : EXTREMES) {
            CHECKS.due("ripple(" + extreme + ")", x.ripple(extreme), Checks.gone(BAD));
        }
        x.set(SlopeMeter.WINDOW, 16);
        CHECKS.due("ripple(16) of a whole period", x.ripple(16), 0);
    }

    /** Values below 0 alone, and one above them all. */
    private static void rippleOfDrift() {
        SlopeMeter x = meter(4, 0);
        x.setHum(0, 400);
        x.pass(100000);
        x.setOffset(-100000, -1000);
        // the copies begin at 100000 and 100200: the offset is -200000 or -200200 and less
        CHECKS.due("offset", x.probe(0, 2), -200000);
        CHECKS.due("ripple(2)", x.ripple(2), 0);
        x.set(SlopeMeter.WINDOW, 400);
        // -400 * 200000 and some is -1221.9, and -400 * 200200 and some is -1223.1 counts
        CHECKS.due("ripple(2) of the window 400", x.ripple(2), 1223 * 65536L / 400 - 1221 * 65536L / 400);
        x.setOffset(0, 0);
        x.setLevel(-16384);
        CHECKS.due("ripple(16)", x.ripple(16), 0);
    }

    /** Promise 16: of several windows the smallest one. */
    private static void bestWindow() {
        SlopeMeter x = meter(50, 1000);
        CHECKS.due("bestWindow(9, 7, 5) without hum", x.bestWindow(9, 7, 5), 9);
        CHECKS.due("bestWindow(4, 1, 12)", x.bestWindow(4, 1, 12), 4);
        CHECKS.due("bestWindow(400, 100, 1)", x.bestWindow(400, 100, 1), 400);
        CHECKS.due("bestWindow(393, 7, 2)", x.bestWindow(393, 7, 2), 393);
        CHECKS.due("bestWindow(4, 36, 12)", x.bestWindow(4, 36, 12), 4);
        int[][] bad = {{3, 1, 1}, {401, 1, 1}, {4, 0, 1}, {4, 101, 1}, {4, 1, 0}, {4, 1, 13}, {394, 7, 2},
            {5, 36, 12}, {4, -1, 2}, {-4, 4, 4}, {301, 100, 2}};
        for (int[] b : bad) {
            CHECKS.due("bestWindow(" + b[0] + ", " + b[1] + ", " + b[2] + ")", x.bestWindow(b[0], b[1], b[2]), BAD);
        }
        for (int extreme : EXTREMES) {
            CHECKS.due("bestWindow(" + extreme + ", 1, 1)", x.bestWindow(extreme, 1, 1), BAD);
            CHECKS.due("bestWindow(4, " + extreme + ", 1)", x.bestWindow(4, extreme, 1), BAD);
            CHECKS.due("bestWindow(4, 1, " + extreme + ")", x.bestWindow(4, 1, extreme), BAD);
        }
        CHECKS.due("window", x.get(SlopeMeter.WINDOW), 50);
    }

    private static void bestWindowWithHum() {
        SlopeMeter x = meter(50, 1000);
        x.setHum(500000, 60);
        CHECKS.due("bestWindow(40, 5, 10)", x.bestWindow(40, 5, 10), 60);
        CHECKS.due("bestWindow(60, 60, 3)", x.bestWindow(60, 60, 3), 60);
        CHECKS.due("bestWindow(90, 10, 12)", x.bestWindow(90, 10, 12), 120);
        x.setHum(500000, 400);
        CHECKS.due("bestWindow(300, 50, 3)", x.bestWindow(300, 50, 3), 400);
    }

    /** The windows compared by ripple(8) itself, and the last and the second of them as the best. */
    private static void bestWindowIsOfRipple8() {
        SlopeMeter x = meter(50, 1000);
        x.setHum(500000, 60);
        CHECKS.due("the last is the best", x.bestWindow(50, 5, 3), 60);
        CHECKS.due("behind the last it would be", x.bestWindow(52, 2, 4), 58);
        CHECKS.due("the second is the best", x.bestWindow(55, 5, 2), 60);
        // first, step, level, amplitude and period with which 7 or 9 copies would find another window
        int[][] rows = {{4, 1, -121292, 588911, 104, 14}, {149, 2, 158289, 819276, 52, 155},
            {135, 1, -641, 410745, 104, 144}, {118, 1, 18275, 89395, 88, 122}, {107, 2, -128057, 728372, 56, 111}};
        for (int[] r : rows) {
            x.setLevel(r[2]);
            x.setHum(r[3], r[4]);
            String call = "bestWindow(" + r[0] + ", " + r[1] + ", 12)";
            CHECKS.due(call, x.bestWindow(r[0], r[1], 12), r[5]);
            CHECKS.due(call + " by ripple(8)", leastRipple(x, r[0], r[1]), r[5]);
        }
    }

    private static int leastRipple(SlopeMeter x, int first, int step) {
        int best = 0;
        long least = Long.MAX_VALUE;
        for (int window = first; window < first + 12 * step; window += step) {
            x.set(SlopeMeter.WINDOW, window);
            long ripple = x.ripple(8);
            if (ripple < least) {
                least = ripple;
                best = window;
            }
        }
        return best;
    }

    /** Promise 17: counts of 16384 for each tick of 16384; half of the steps are equal. */
    private static void order() {
        SlopeMeter x = meter(4, 0);
        CHECKS.due("order(0, 8192, 9, 1)", x.order(0, 8192, 9, 1), 4);
        // with a direction of slots that follows the level, no greater level can give less
        CHECKS.due("order(0, 8192, 9, 0)", x.order(0, 8192, 9, 0), 0);
        // the steps around 0 are all 0: -8192, 0, 8192
        CHECKS.due("order(-16384, 8192, 5, 1)", x.order(-16384, 8192, 5, 1), 2);
        CHECKS.due("order(2500000, 100000, 6, 1)", x.order(2500000, 100000, 6, 1), 5);
        CHECKS.due("order(0, 1, 40, 1)", x.order(0, 1, 40, 1), 39);
        CHECKS.due("order(16383, 1, 2, 1)", x.order(16383, 1, 2, 1), 0);
        CHECKS.due("order(-3000000, 16384, 2, 1)", x.order(-3000000, 16384, 2, 1), 1);
        CHECKS.due("order(2900000, 100000, 2, 1)", x.order(2900000, 100000, 2, 1), 1);
        CHECKS.due("order(-900000, 100000, 40, 1)", x.order(-900000, 100000, 40, 1), 5);
        int[][] bad = {{-3000001, 1, 2, 0}, {3000001, 1, 2, 0}, {0, 0, 2, 0}, {0, -1, 2, 0}, {0, 100001, 2, 0},
            {0, 1, 1, 0}, {0, 1, 41, 0}, {0, 1, 2, -1}, {0, 1, 2, 2}, {2900001, 100000, 2, 0}, {-899999, 100000, 40, 0}};
        for (int[] b : bad) {
            CHECKS.due("order(" + b[0] + ", " + b[1] + ", " + b[2] + ", " + b[3] + ")",
                    x.order(b[0], b[1], b[2], b[3]), BAD);
        }
        for (int extreme : EXTREMES) {
            CHECKS.due("order(" + extreme + ", 1, 2, 0)", x.order(extreme, 1, 2, 0), BAD);
            CHECKS.due("order(0, " + extreme + ", 2, 0)", x.order(0, extreme, 2, 0), BAD);
            CHECKS.due("order(0, 1, " + extreme + ", 0)", x.order(0, 1, extreme, 0), BAD);
            CHECKS.due("order(0, 1, 2, " + extreme + ")", x.order(0, 1, 2, extreme), BAD);
        }
    }

    /** Promise 18: with the window 10, n counts of a positive level need n * 6553.6. */
    private static void levelFor() {
        SlopeMeter x = meter(10, 123);
        CHECKS.due("levelFor(98304)", x.levelFor(98304), 98304);
        CHECKS.due("levelFor(98305)", x.levelFor(98305), 104858);
        CHECKS.due("levelFor(1)", x.levelFor(1), 6554);
        CHECKS.due("levelFor(6553)", x.levelFor(6553), 6554);
        CHECKS.due("levelFor(6554)", x.levelFor(6554), 13108);
        // a level below 0 has its counts rounded up
        CHECKS.due("levelFor(0)", x.levelFor(0), -6553);
        CHECKS.due("levelFor(-6552)", x.levelFor(-6552), -6553);
        CHECKS.due("levelFor(-6553)", x.levelFor(-6553), -13107);
        CHECKS.due("levelFor(2496921)", x.levelFor(2496921), 2496922);
        CHECKS.due("levelFor(2496922)", x.levelFor(2496922), Checks.gone(NONE));
        CHECKS.due("levelFor(-2496921)", x.levelFor(-2496921), -3000000);
        CHECKS.due("levelFor(-2496920)", x.levelFor(-2496920), -2496921);
        CHECKS.due("levelFor(-10000000)", x.levelFor(-10000000), -3000000);
        CHECKS.due("levelFor(10000000)", x.levelFor(10000000), Checks.gone(NONE));
        CHECKS.due("level", x.count(2), 10000123);
        x.set(SlopeMeter.RANGE, 1);
        CHECKS.due("levelFor(1) in range 1", x.levelFor(1), 656);
    }

    private static void levelForWrongInputs() {
        SlopeMeter x = meter(10, 123);
        for (int bad : new int[] {10000001, -10000001, Integer.MIN_VALUE, Integer.MAX_VALUE}) {
            CHECKS.due("levelFor(" + bad + ")", x.levelFor(bad), Checks.gone(BAD));
        }
    }

    /** Promise 19. */
    private static void settle() {
        SlopeMeter x = meter(20, 500);
        CHECKS.due("settle() without AUTO", x.settle(), 0);
        x.set(SlopeMeter.AUTO, 1);
        CHECKS.due("settle() up", x.settle(), 3);
        x.read();
        CHECKS.due("settle() from 1", x.settle(), 2);
        x.set(SlopeMeter.RANGE, 3);
        CHECKS.due("settle() at 3", x.settle(), 0);
        x.setLevel(2000000);
        CHECKS.due("settle() down", x.settle(), 3);
        x.set(SlopeMeter.RANGE, 0);
        CHECKS.due("settle() at 0", x.settle(), 0);
        CHECKS.due("range", x.get(SlopeMeter.RANGE), 0);
        CHECKS.due("readings", x.count(1), 1);
    }

    /** A zero that suits neither range, so that the range goes up and down for ever. */
    private static void settleNever() {
        SlopeMeter x = meter(400, 399770);
        x.setOffset(100000, 0);
        CHECKS.due("zero of 610", x.zero(), 10000610);
        x.setOffset(0, 0);
        x.set(SlopeMeter.WINDOW, 100);
        x.set(SlopeMeter.AUTO, 1);
        CHECKS.due("settle() never", x.settle(), NONE);
        Checks.say(x, "r");
        for (int i = 0; i < 5; i++) {
            x.run();
            Checks.say(x, "r");
        }
        CHECKS.due("range after 5 readings", x.get(SlopeMeter.RANGE), 1);
        CHECKS.due("settle() never, later", x.settle(), NONE);
    }

    /** A range that changes behind 21 readings and not behind the 22nd; the numbers were searched for. */
    private static void settleAtTheLimit() {
        SlopeMeter x = meter(307, 114741);
        x.setOffset(25253, 0);
        x.zero();
        x.setOffset(90852, 838);
        x.setHum(19316, 76);
        x.set(SlopeMeter.WINDOW, 51);
        x.set(SlopeMeter.AUTO, 1);
        for (int left = 21; left >= 0; left--) {
            CHECKS.due("settle() with " + left + " to go", x.settle(), left == 21 ? NONE : left);
            int range = x.get(SlopeMeter.RANGE);
            x.read();
            CHECKS.due("change with " + left + " to go", x.get(SlopeMeter.RANGE) == range ? 0 : 1, left == 0 ? 0 : 1);
        }
    }

    /** No what-if changes any answer of the meter, also not those of the conversion before. */
    private static void nothingChanges() {
        SlopeMeter x = meter(30, 20000);
        x.setHum(3000, 44);
        x.setOffset(5000, -7);
        x.set(SlopeMeter.ZERO, 3);
        x.set(SlopeMeter.AUTO, 1);
        x.set(SlopeMeter.MODE, SlopeMeter.MULTI);
        Checks.say(x, "r5,z,w77");
        x.run();
        Checks.say(x, "r,l-");
        x.save(1);
        long[] before = Checks.everything(x);
        x.wouldRead(2000000);
        CHECKS.due("after wouldRead", Checks.everything(x), before);
        x.ripple(16);
        CHECKS.due("after ripple", Checks.everything(x), before);
        x.bestWindow(4, 3, 12);
        CHECKS.due("after bestWindow", Checks.everything(x), before);
        x.order(-3000000, 100000, 40, 0);
        CHECKS.due("after order", Checks.everything(x), before);
        x.levelFor(12345);
        CHECKS.due("after levelFor", Checks.everything(x), before);
        x.settle();
        CHECKS.due("after settle", Checks.everything(x), before);
        long next = x.wouldRead(20000);
        CHECKS.due("read() as foretold", x.read(), next);
    }
}
