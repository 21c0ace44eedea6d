/** The boundary cases of "CONVERSION": each test names the sentence of the document that it holds. */
public final class ConversionEdgesTest {
    private static final Checks CHECKS = new Checks("ConversionEdgesTest");
    private static final int REFERENCE = 1048576;
    private static final int SIXTEENTH = 65536;

    public static void main(String[] args) {
        ticksUseTheTimeBefore();
        runUpTakesTheWindow();
        slotsOfEveryLength();
        slotDecidesAtZero();
        slotDecidesAtItsBegin();
        dualHasNoSlots();
        nothingIsLeftOfTheRunUp();
        leastIntegral();
        runDownEnds();
        runDownTakesAtMostThreeWindows();
        overOfALongWindow();
        finePhaseEnds();
        finePhaseOfOneAndOfSixteen();
        countsHaveTheirSigns();
        greatestIntegral();
        peakBeginsAnew();
        CHECKS.finish();
    }

    private static SlopeMeter multi(int window, int slot, int level) {
        SlopeMeter x = States.meter(window, level);
        x.set(SlopeMeter.SLOT, slot);
        x.set(SlopeMeter.MODE, SlopeMeter.MULTI);
        return x;
    }

    /** Counts, run-down, fine ticks, subtracted, added, peak, rest. */
    private static void latestIs(SlopeMeter x, String run, long... want) {
        for (int what = 0; what < want.length; what++) {
            CHECKS.due(run + ": latest(" + what + ")", x.latest(what), want[what]);
        }
    }

    /** "Each tick of a phase first uses the present time, and then increases the time by 1." */
    private static void ticksUseTheTimeBefore() {
        SlopeMeter x = States.meter(5, 0);
        x.setHum(1000000, 4);
        // 0, 1000000, 0, -1000000, 0
        CHECKS.due("read() from 0", x.read(), 0);
        latestIs(x, "from 0", 0, 0, 0, 0, 0, 1000000, 0);
        CHECKS.due("time", x.count(0), 5);
        // 1000000, 0, -1000000, 0, 1000000; then a tick to -48576, and one to 16960
        CHECKS.due("read() from 5", x.read(), 15 * SIXTEENTH / 5);
        latestIs(x, "from 5", 15, 1, 1, 0, 0, 1000000, 16960);
        CHECKS.due("time", x.count(0), 12);
        // the ticks of the run-down and of the fine phase count: 12 is 0 again
        CHECKS.due("read() from 12", x.read(), 0);
        CHECKS.due("log(2, 4)", x.log(2, 4), 12);
        CHECKS.due("log(2, 5)", x.log(2, 5), 17);
        // the drift is 1 at 1000, the last of the ticks, and nothing before
        SlopeMeter y = States.meter(4, 0);
        y.setOffset(0, 1);
        y.pass(996);
        y.zero();
        CHECKS.due("integral of 996 to 999", y.latest(5), 0);
        SlopeMeter z = States.meter(4, 0);
        z.setOffset(0, 1);
        z.pass(997);
        z.zero();
        latestIs(z, "997 to 1000", 0, 1, 16, 0, 0, REFERENCE - 1, 1);
    }

    /** "Run-up: it takes WINDOW ticks." */
    private static void runUpTakesTheWindow() {
        for (int window : new int[] {4, 5, 399, 400}) {
            SlopeMeter x = States.meter(window, 0);
            x.read();
            CHECKS.due("ticks of the window " + window, x.count(0), window);
            // one reference a tick: as many ticks down as up, and none of the fine phase
            x.setLevel(REFERENCE);
            CHECKS.due("read() of one reference", x.read(), REFERENCE);
            latestIs(x, "window " + window, 16 * window, window, 0, 0, 0, (long) window * REFERENCE, 0);
            CHECKS.due("ticks up and down", x.count(0), 3 * window);
        }
    }

    /** "slots of SLOT ticks, the last of which can be shorter": with nothing to measure they add and subtract in turn. */
    private static void slotsOfEveryLength() {
        for (int window : new int[] {4, 5, 6, 7, 12, 49, 50, 51, 99, 100, 101, 400}) {
            for (int slot : new int[] {1, 2, 3, 4, 5, 6, 7, 8, 24, 25, 26, 48, 49, 50}) {
                int pairs = window / (2 * slot);
                int left = window - pairs * 2 * slot;
                int added = pairs * slot + Math.min(left, slot);
                int subtracted = window - added;
                SlopeMeter x = multi(window, slot, 0);
                CHECKS.due("read() of nothing", x.read(), 0);
                latestIs(x, "window " + window + ", slot " + slot, 0, added - subtracted, 0, subtracted, added,
                        (long) Math.min(window, slot) * REFERENCE, 0);
                CHECKS.due("ticks", x.count(0), window + added - subtracted);
            }
        }
    }

    /** "if the integral is greater than 0, the reference is subtracted .., otherwise it is added". */
    private static void slotDecidesAtZero() {
        // the first slot adds, and what it leaves is 0: all others add too
        SlopeMeter x = multi(4, 1, -REFERENCE);
        CHECKS.due("read() of 0 at each slot", x.read(), -REFERENCE);
        latestIs(x, "0 at each slot", -64, 0, 0, 0, 4, 0, 0);
        CHECKS.due("ticks", x.count(0), 4);
        // 1: the second slot subtracts, to -2097150; then -2097149, -2097148, two ticks down, one of the fine phase
        x = multi(4, 1, -REFERENCE + 1);
        CHECKS.due("read() of 1 at the second slot", x.read(), -63 * SIXTEENTH / 4);
        latestIs(x, "1 at the second slot", -63, 2, 1, 1, 3, 2 * REFERENCE - 2, 4 - SIXTEENTH);
        // -1: all slots add
        x = multi(4, 1, -REFERENCE - 1);
        CHECKS.due("read() of -1 at the second slot", x.read(), -REFERENCE);
        latestIs(x, "-1 at the second slot", -64, 1, 16, 0, 4, REFERENCE - 4, -4);
    }

    /** "At the beginning of each slot, the direction of the slot is decided": not in its midst. */
    private static void slotDecidesAtItsBegin() {
        // 0, 500000, 0, -500000 and a reference in each tick: 1048576, 2597152, 1548576, 0
        SlopeMeter x = multi(4, 2, 0);
        x.setHum(500000, 4);
        x.read();
        latestIs(x, "slots of 2", 0, 0, 0, 2, 2, 2597152, 0);
        // the slot of 3 adds also where the integral is above 0: 1048576, 2597152, 3645728, 2097152
        SlopeMeter y = multi(4, 3, 0);
        y.setHum(500000, 4);
        y.read();
        latestIs(y, "slots of 3", 0, 2, 0, 1, 3, 3645728, 0);
    }

    private static void dualHasNoSlots() {
        SlopeMeter x = States.meter(7, 0);
        for (int slot : new int[] {1, 2, 50}) {
            x.set(SlopeMeter.SLOT, slot);
            x.read();
            latestIs(x, "DUAL with SLOT " + slot, 0, 0, 0, 0, 0, 0, 0);
        }
    }

    /** "If the integral is 0 at the end of the run-up, there are no ticks of the phases 2 and 3." */
    private static void nothingIsLeftOfTheRunUp() {
        SlopeMeter x = States.meter(4, 0);
        x.setHum(700000, 4);
        CHECKS.due("read()", x.read(), 0);
        latestIs(x, "up and down again", 0, 0, 0, 0, 0, 700000, 0);
        CHECKS.due("ticks", x.count(0), 4);
        CHECKS.due("over", x.log(0, 3), 0);
        SlopeMeter y = multi(4, 2, 0);
        y.read();
        latestIs(y, "as much added as subtracted", 0, 0, 0, 2, 2, 2 * REFERENCE, 0);
        CHECKS.due("ticks", y.count(0), 4);
    }

    /** An integral of 1 or -1 is not 0, and is the peak of a conversion that has no greater one. */
    private static void leastIntegral() {
        for (int sign = -1; sign <= 1; sign += 2) {
            // the offset is 0 in three ticks and 1 or -1 in the fourth
            SlopeMeter x = States.meter(4, 0);
            x.setOffset(0, sign);
            x.pass(997);
            x.zero();
            latestIs(x, "an integral of " + sign, 0, 1, 16, 0, 0, REFERENCE - 1, sign);
            CHECKS.due("ticks", x.count(0), 997 + 4 + 1 + 16);
            // 1, 0, -1, 0 or -1, 0, 1, 0
            SlopeMeter y = States.meter(4, 0);
            y.setHum(1, 4);
            y.pass(sign > 0 ? 1 : 3);
            y.read();
            latestIs(y, "a peak of " + sign, 0, 0, 0, 0, 0, 1, 0);
        }
    }

    /** "as long as the integral is not 0 and has the sign that it had": one reference less 4, one, and one and 4. */
    private static void runDownEnds() {
        for (int sign = -1; sign <= 1; sign += 2) {
            SlopeMeter x = States.meter(4, sign * 262143);
            CHECKS.due("read() below a reference", x.read(), sign * 15 * SIXTEENTH / 4);
            latestIs(x, "below a reference", sign * 15, 1, 1, 0, 0, REFERENCE - 4, sign * 65532);
            x.setLevel(sign * 262144);
            CHECKS.due("read() of a reference", x.read(), sign * 16 * SIXTEENTH / 4);
            latestIs(x, "a reference", sign * 16, 1, 0, 0, 0, REFERENCE, 0);
            x.setLevel(sign * 262145);
            CHECKS.due("read() above a reference", x.read(), sign * 16 * SIXTEENTH / 4);
            latestIs(x, "above a reference", sign * 16, 2, 16, 0, 0, REFERENCE + 4, sign * 4);
            CHECKS.due("ticks", x.count(0), (4 + 1 + 1) + (4 + 1) + (4 + 2 + 16));
        }
    }

    /** "If this has taken 3 * WINDOW ticks and does not end then, the conversion is over the range". */
    private static void runDownTakesAtMostThreeWindows() {
        SlopeMeter x = multi(5, 50, 2 * REFERENCE - 1);
        CHECKS.due("read() just inside", x.read(), 159 * SIXTEENTH / 5);
        latestIs(x, "just inside", 159, 15, 1, 0, 5, 15 * REFERENCE - 5, SIXTEENTH - 5);
        CHECKS.due("over", x.log(0, 3), 0);
        CHECKS.due("ticks", x.count(0), 5 + 15 + 1);
        x.setLevel(2 * REFERENCE);
        CHECKS.due("read() at the end", x.read(), 160 * SIXTEENTH / 5);
        latestIs(x, "at the end", 160, 15, 0, 0, 5, 15 * REFERENCE, 0);
        CHECKS.due("over", x.log(1, 3), 0);
        x.setLevel(2 * REFERENCE + 1);
        CHECKS.due("read() just beyond", x.read(), 160 * SIXTEENTH / 5);
        // "there is no fine phase then"
        latestIs(x, "just beyond", 160, 15, 0, 0, 5, 15 * REFERENCE + 5, 5);
        CHECKS.due("over", x.log(2, 3), 1);
        CHECKS.due("ticks", x.log(2, 5) - x.log(2, 4), 5 + 15);
        x.setLevel(0);
        x.read();
        CHECKS.due("over, later", x.log(3, 3), 0);
    }

    private static void overOfALongWindow() {
        SlopeMeter x = multi(50, 50, 2500000);
        x.read();
        latestIs(x, "window 50", 16 * 100, 150, 0, 0, 50, 50 * (2500000L + REFERENCE),
                50 * (2500000L + REFERENCE) - 150L * REFERENCE);
        CHECKS.due("over", x.log(0, 3), 1);
        // a second slot of one tick subtracts: 51 * 2500000 + 49 references are 170.6 references, and 153 are the most
        x.set(SlopeMeter.WINDOW, 51);
        x.read();
        latestIs(x, "window 51", 16 * (1 - 50 + 153), 153, 0, 1, 50, 50 * (2500000L + REFERENCE) + 2500000L - REFERENCE,
                51 * 2500000L + 49L * REFERENCE - 153L * REFERENCE);
        CHECKS.due("over", x.log(1, 3), 1);
        // without slots, nothing is over: 2.9 references a tick are the most
        x.set(SlopeMeter.MODE, SlopeMeter.DUAL);
        x.read();
        CHECKS.due("over with DUAL", x.log(2, 3), 0);
    }

    /** "as long as the integral is not 0 and has the other sign": a sixteenth less 4, one, and one and 4. */
    private static void finePhaseEnds() {
        for (int sign = -1; sign <= 1; sign += 2) {
            SlopeMeter x = States.meter(4, sign * 16383);
            CHECKS.due("read() below a sixteenth", x.read(), 0);
            latestIs(x, "below a sixteenth", 0, 1, 16, 0, 0, REFERENCE - 65532, sign * 65532);
            x.setLevel(sign * 16384);
            CHECKS.due("read() of a sixteenth", x.read(), sign * 16384);
            latestIs(x, "a sixteenth", sign, 1, 15, 0, 0, REFERENCE - 65536, 0);
            x.setLevel(sign * 16385);
            CHECKS.due("read() above a sixteenth", x.read(), sign * 16384);
            latestIs(x, "above a sixteenth", sign, 1, 15, 0, 0, REFERENCE - 65540, sign * 4);
        }
    }

    private static void finePhaseOfOneAndOfSixteen() {
        for (int sign = -1; sign <= 1; sign += 2) {
            // 245760 * 4 is 15 sixteenths
            SlopeMeter x = States.meter(4, sign * 245760);
            x.read();
            latestIs(x, "15 sixteenths", sign * 15, 1, 1, 0, 0, 15 * SIXTEENTH, 0);
            x.setLevel(sign * 245759);
            x.read();
            latestIs(x, "less than 15 sixteenths", sign * 14, 1, 2, 0, 0, 15 * SIXTEENTH - 4, sign * 65532);
            x.setLevel(sign);
            x.read();
            latestIs(x, "the least level", 0, 1, 16, 0, 0, REFERENCE - 4, sign * 4);
        }
    }

    /** "16 for each tick in which the reference was subtracted, minus 16 .. added, minus 1 .., plus 1 ..". */
    private static void countsHaveTheirSigns() {
        SlopeMeter x = multi(5, 2, 300000);
        // 1348576, 2697152, 1948576, 1200000, 451424: a tick to -597152, and 10 sixteenths up
        CHECKS.due("read() above 0", x.read(), 22 * SIXTEENTH / 5);
        latestIs(x, "above 0", 16 * (3 - 2) + 16 - 10, 1, 10, 3, 2, 2697152, 58208);
        // 748576, 1497152, 148576, -1200000, -451424: a tick to 597152, and 10 sixteenths down
        x.setLevel(-300000);
        CHECKS.due("read() below 0", x.read(), -22 * SIXTEENTH / 5);
        latestIs(x, "below 0", 16 * (2 - 3) - 16 + 10, 1, 10, 2, 3, 1497152, -58208);
    }

    /** The most that the longest window takes: level and offset at their limits. */
    private static void greatestIntegral() {
        for (int sign = -1; sign <= 1; sign += 2) {
            SlopeMeter x = States.meter(400, sign * 3000000);
            for (int i = 0; i < 4; i++) {
                x.pass(100000);
            }
            x.setOffset(sign * 100000, sign * 1000);
            // 1200000000 are 1144 references and 428800, so 1145 ticks, and 619776 are 10 sixteenths less 35584
            long over = 1145L * REFERENCE - 1200000000;
            long rest = 10 * SIXTEENTH - over;
            CHECKS.due("read()", x.read(), sign * 18310L * SIXTEENTH / 400);
            latestIs(x, "the most", sign * 18310, 1145, 10, 0, 0, 1200000000, sign * rest);
            CHECKS.due("zero()", x.zero(), 10000000 + sign * 3051);
        }
        SlopeMeter y = multi(400, 50, 3000000);
        for (int i = 0; i < 4; i++) {
            y.pass(100000);
        }
        y.setOffset(100000, 1000);
        y.read();
        // 50 ticks add, and 350 subtract: 1200000000 - 300 references are left
        latestIs(y, "the most with slots", 18310, 845, 10, 350, 50, 1200000000 - 300L * REFERENCE, 10 * SIXTEENTH - 619520);
    }

    /** "the greatest absolute value of the integral at the end of a tick" is of the latest conversion alone. */
    private static void peakBeginsAnew() {
        SlopeMeter x = States.meter(4, 1000000);
        x.read();
        CHECKS.due("latest(5) of 1000000", x.latest(5), 4000000);
        x.setLevel(0);
        x.read();
        latestIs(x, "0 behind 1000000", 0, 0, 0, 0, 0, 0, 0);
        x.setLevel(-300000);
        x.read();
        CHECKS.due("latest(5) of -300000", x.latest(5), 1200000);
        x.zero();
        latestIs(x, "a zero conversion behind", 0, 0, 0, 0, 0, 0, 0);
    }
}
