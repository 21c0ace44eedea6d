/** Promises 20 to 23: the pad, its fault, and the programs. */
public final class TextTest {
    private static final Checks CHECKS = new Checks("TextTest");
    private static final int NONE = SlopeMeter.NONE;

    public static void main(String[] args) {
        say();
        faults();
        noGreatestLength();
        everySignOfAFirstStep();
        everySignBehindAKind();
        runEachStep();
        runInOrder();
        runThatFails();
        runBehindTheLastTime();
        CHECKS.finish();
    }

    private static SlopeMeter meter(String text) {
        SlopeMeter x = new SlopeMeter();
        Checks.say(x, text);
        return x;
    }

    /** Promises 20 and 21. */
    private static void say() {
        SlopeMeter x = new SlopeMeter();
        CHECKS.due("wipe() of nothing", x.wipe(), 0);
        for (int i = 1; i <= 60; i++) {
            CHECKS.due("say() " + i, x.say(33 + i), i);
        }
        for (int bad : new int[] {32, 127, 0, -1, 128, 33 + 65536, Integer.MIN_VALUE, Integer.MAX_VALUE}) {
            CHECKS.due("say(" + bad + ") to a full pad", x.say(bad), SlopeMeter.BAD_VALUE);
        }
        CHECKS.due("say(33) to a full pad", x.say(33), SlopeMeter.TOO_MANY);
        CHECKS.due("say(126) to a full pad", x.say(126), SlopeMeter.TOO_MANY);
        CHECKS.due("count(5)", x.count(5), 60);
        CHECKS.due("wipe()", x.wipe(), 60);
        CHECKS.due("count(5) then", x.count(5), 0);
        CHECKS.due("say(33)", x.say(33), 1);
        CHECKS.due("say(126)", x.say(126), 2);
        CHECKS.due("say(32)", x.say(32), SlopeMeter.BAD_VALUE);
        CHECKS.due("say(127)", x.say(127), SlopeMeter.BAD_VALUE);
        CHECKS.due("wipe() of two", x.wipe(), 2);
        Checks.say(x, "z");
        CHECKS.due("nothing is left of the old text", x.fault(), NONE);
    }

    /** Promise 22. */
    private static void faults() {
        String[] correct = {"r", "r1", "r9", "r10", "r99", "z", "w1", "w9", "w10", "w9999", "l0", "l-0", "l1", "l-1",
            "l3000000", "l-3000000", "l2999999", "l999999", "g0", "g1", "g2", "g3", "r,r", "r5,z,w10,l-3,g1", "z,z,z"};
        for (String text : correct) {
            CHECKS.due("fault() of " + text, meter(text).fault(), NONE);
        }
        Object[][] faulty = {{"", 0}, {"x", 0}, {",", 0}, {"R", 0}, {"0", 0}, {"-", 0}, {"r0", 1}, {"r00", 1}, {"r-1", 1},
            {"r100", 3}, {"r991", 3}, {"rr", 1}, {"r1z", 2}, {"r,", 2}, {"r,,", 2}, {"r,0", 2}, {"z1", 1}, {"z-", 1},
            {"zz", 1}, {"z,", 2}, {"w", 1}, {"w,", 1}, {"w0", 1}, {"w-1", 1}, {"w10000", 5}, {"w99990", 5}, {"w99999", 5},
            {"l", 1}, {"l,", 1}, {"l-", 2}, {"l--1", 2}, {"l-,", 2}, {"l00", 2}, {"l01", 2}, {"l-00", 3}, {"l-05", 3},
            {"l+1", 1}, {"l3000001", 7}, {"l3000010", 7}, {"l3100000", 7}, {"l30000000", 8}, {"l-3000001", 8},
            {"l9999999", 7}, {"l-9999999", 8}, {"l1000000000000", 8}, {"g", 1}, {"g4", 1}, {"g9", 1}, {"g-", 1},
            {"g,", 1}, {"g00", 2}, {"g12", 2}, {"r1,w5,l-7,g3,q", 13}, {"r1,w5,l-7,g3,", 13}, {"r5;z", 2}, {"r~", 1},
            {"z,w", 3}, {"z,l-", 4}, {"z,g", 3}};
        for (Object[] f : faulty) {
            CHECKS.due("fault() of " + f[0], meter((String) f[0]).fault(), (Integer) f[1]);
        }
        SlopeMeter x = meter("r5");
        CHECKS.due("fault()", x.fault(), NONE);
        CHECKS.due("fault() changes nothing", x.count(5), 2);
        CHECKS.due("fault() makes no reading", x.count(1), 0);
    }

    /** A full pad whose text goes on has its fault behind the last character. */
    private static void noGreatestLength() {
        StringBuilder text = new StringBuilder();
        for (int i = 0; i < 30; i++) {
            text.append("z,");
        }
        SlopeMeter x = meter(text.toString());
        CHECKS.due("length", x.count(5), 60);
        CHECKS.due("fault() of a full pad that ends with a comma", x.fault(), 60);
        CHECKS.due("run() of it", x.run(), SlopeMeter.BAD_TEXT);
        CHECKS.due("length then", x.count(5), 60);
        x = meter("l1," + text.substring(0, 57));
        CHECKS.due("length", x.count(5), 60);
        CHECKS.due("fault() of a full pad", x.fault(), NONE);
        CHECKS.due("run() of it", x.run(), 0);
        CHECKS.due("29 zero conversions", x.count(0), 2900);
        CHECKS.due("length then", x.count(5), 0);
    }

    private static void everySignOfAFirstStep() {
        for (int sign = 33; sign <= 126; sign++) {
            SlopeMeter x = new SlopeMeter();
            x.say(sign);
            boolean isStep = sign == 'r' || sign == 'z';
            boolean isBegin = sign == 'w' || sign == 'l' || sign == 'g';
            CHECKS.due("fault() of the sign " + sign, x.fault(), isStep ? NONE : isBegin ? 1 : 0);
        }
    }

    private static void everySignBehindAKind() {
        String[] begins = {"r", "z", "w", "l", "g", "l-", "r9", "l0", "w9999", "l3000000", "g3", "z,"};
        String[] correct = {"123456789", "", "123456789", "0123456789", "0123", "0123456789", "0123456789", "", "", "", "", "rz"};
        String[] goingOn = {",", ",", "", "-", "", "", ",", ",", ",", ",", ",", "wlg"};
        for (int i = 0; i < begins.length; i++) {
            for (int sign = 33; sign <= 126; sign++) {
                int at = begins[i].length();
                int want = correct[i].indexOf(sign) >= 0 ? NONE : goingOn[i].indexOf(sign) >= 0 ? at + 1 : at;
                CHECKS.due("fault() of " + begins[i] + (char) sign, meter(begins[i] + (char) sign).fault(), want);
            }
        }
    }

    /** Promise 23, a step each. */
    private static void runEachStep() {
        SlopeMeter x = meter("r");
        CHECKS.due("run() r", x.run(), 1);
        CHECKS.due("count(1)", x.count(1), 1);
        CHECKS.due("count(0)", x.count(0), 100);
        CHECKS.due("count(5)", x.count(5), 0);
        Checks.say(x, "r12");
        CHECKS.due("run() r12", x.run(), 12);
        CHECKS.due("count(1)", x.count(1), 13);
        Checks.say(x, "w9999");
        CHECKS.due("run() w9999", x.run(), 0);
        CHECKS.due("count(0)", x.count(0), 1300 + 9999);
        Checks.say(x, "l-3000000");
        CHECKS.due("run() l-3000000", x.run(), 0);
        CHECKS.due("count(2)", x.count(2), 7000000);
        Checks.say(x, "l-0");
        CHECKS.due("run() l-0", x.run(), 0);
        CHECKS.due("count(2)", x.count(2), 10000000);
        Checks.say(x, "l3000000");
        CHECKS.due("run() l3000000", x.run(), 0);
        CHECKS.due("count(2)", x.count(2), 13000000);
        Checks.say(x, "g3");
        CHECKS.due("run() g3", x.run(), 0);
        CHECKS.due("get(5)", x.get(SlopeMeter.RANGE), 3);
        x.set(SlopeMeter.WINDOW, 4);
        x.setOffset(100000, 0);
        Checks.say(x, "z");
        CHECKS.due("run() z", x.run(), 0);
        CHECKS.due("get(5) as before", x.get(SlopeMeter.RANGE), 3);
        CHECKS.due("count(3)", x.count(3), 10000006);
        CHECKS.due("latest(0)", x.latest(0), 6);
        CHECKS.due("count(1)", x.count(1), 13);
    }

    /** The same as the calls one by one. */
    private static void runInOrder() {
        SlopeMeter x = meter("l16384,r,g1,r2,w10,z,l-49152,g0,r3,r,r");
        SlopeMeter y = new SlopeMeter();
        for (SlopeMeter each : new SlopeMeter[] {x, y}) {
            each.set(SlopeMeter.WINDOW, 8);
            each.set(SlopeMeter.ZERO, 4);
            each.setOffset(20000, -50);
            each.setHum(4000, 40);
        }
        y.setLevel(16384);
        y.read();
        y.set(SlopeMeter.RANGE, 1);
        y.read();
        y.read();
        y.pass(10);
        y.zero();
        y.setLevel(-49152);
        y.set(SlopeMeter.RANGE, 0);
        for (int i = 0; i < 5; i++) {
            y.read();
        }
        CHECKS.due("run()", x.run(), 8);
        Checks.say(x, "q");
        Checks.say(y, "q");
        CHECKS.due("everything then", Checks.everything(x), Checks.everything(y));
    }

    private static void runThatFails() {
        SlopeMeter x = meter("r5,w10,l7,g1,");
        long[] before = Checks.everything(x);
        CHECKS.due("run() of a bad text", x.run(), SlopeMeter.BAD_TEXT);
        CHECKS.due("everything then", Checks.everything(x), before);
        CHECKS.due("run() of no text", new SlopeMeter().run(), SlopeMeter.BAD_TEXT);
    }

    /** The last time is reached here by more calls than an object is promised for. */
    private static void runBehindTheLastTime() {
        SlopeMeter x = new SlopeMeter();
        for (int i = 0; i < 9999; i++) {
            x.pass(100000);
        }
        x.pass(99000);
        Checks.say(x, "r3,l5,g2,z,w601");
        x.save(0);
        long[] before = Checks.everything(x);
        CHECKS.due("run() behind the last time", x.run(), SlopeMeter.NOT_POSSIBLE);
        CHECKS.due("everything then", Checks.everything(x), before);
        x.wipe();
        Checks.say(x, "r3,l5,g2,z,w600");
        CHECKS.due("run() up to the last time", x.run(), 3);
        CHECKS.due("count(0)", x.count(0), 1000000000);
        Checks.say(x, "w1");
        CHECKS.due("run() of w1", x.run(), SlopeMeter.NOT_POSSIBLE);
        x.wipe();
        Checks.say(x, "l0,r,z");
        CHECKS.due("run() without waiting", x.run(), 1);
        CHECKS.due("count(0)", x.count(0) > 1000000000 ? 1 : 0, 1);
    }
}
