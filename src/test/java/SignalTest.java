/** Promises 1 to 7: a new object, the signal and the settings. */
public final class SignalTest {
    private static final Checks CHECKS = new Checks("SignalTest");
    private static final int BAD = SlopeMeter.BAD_VALUE;
    private static final int[] EXTREMES = {Integer.MIN_VALUE, Integer.MIN_VALUE + 1, Integer.MAX_VALUE - 1, Integer.MAX_VALUE};

    public static void main(String[] args) {
        newObject();
        setLevel();
        setHum();
        humShape();
        setOffset();
        offsetInTime();
        settings();
        zeroSettingBeginsAgain();
        probe();
        CHECKS.finish();
    }

    /** Promise 1. */
    private static void newObject() {
        SlopeMeter x = new SlopeMeter();
        int[] counts = {0, 0, 10000000, 10000000, SlopeMeter.NONE, 0};
        int[] settings = {100, 5, SlopeMeter.DUAL, 0, 0, 0};
        for (int what = 0; what < 6; what++) {
            CHECKS.due("new count(" + what + ")", x.count(what), counts[what]);
            CHECKS.due("new get(" + what + ")", x.get(what), settings[what]);
        }
        for (int what = 0; what < 3; what++) {
            CHECKS.due("new probe(25, " + what + ")", x.probe(25, what), 0);
        }
        for (int what = 0; what < 7; what++) {
            CHECKS.due("new latest(" + what + ")", x.latest(what), Checks.gone(SlopeMeter.NOT_POSSIBLE));
            CHECKS.due("new log(0, " + what + ")", x.log(0, what), Checks.gone(SlopeMeter.NONE));
        }
        CHECKS.due("new restore(0)", x.restore(0), SlopeMeter.NOT_POSSIBLE);
        CHECKS.due("new restore(1)", x.restore(1), SlopeMeter.NOT_POSSIBLE);
        CHECKS.due("new setOffset(0, 0)", x.setOffset(0, 0), 100000000);
        CHECKS.due("new setHum(1, 4)", x.setHum(1, 4), 100);
        SlopeMeter other = new SlopeMeter();
        other.read();
        CHECKS.due("count(1) of the other object", x.count(1), 0);
    }

    /** Promise 2. */
    private static void setLevel() {
        SlopeMeter x = new SlopeMeter();
        CHECKS.due("setLevel(3000000)", x.setLevel(3000000), 0);
        CHECKS.due("setLevel(3000001)", x.setLevel(3000001), BAD);
        CHECKS.due("level kept", x.count(2), 13000000);
        CHECKS.due("setLevel(-3000000)", x.setLevel(-3000000), 0);
        CHECKS.due("setLevel(-3000001)", x.setLevel(-3000001), BAD);
        for (int extreme : EXTREMES) {
            CHECKS.due("setLevel(" + extreme + ")", x.setLevel(extreme), BAD);
        }
        CHECKS.due("level kept", x.count(2), 7000000);
        x.read();
        x.read();
        x.zero();
        CHECKS.due("setLevel(17) after two readings", x.setLevel(17), 2);
        CHECKS.due("level", x.count(2), 10000017);
        CHECKS.due("input", x.probe(0, 1), 17);
    }

    /** Promise 3. */
    private static void setHum() {
        SlopeMeter x = new SlopeMeter();
        CHECKS.due("setHum(1000000, 4)", x.setHum(1000000, 4), 100);
        CHECKS.due("setHum(0, 400)", x.setHum(0, 400), 4);
        CHECKS.due("setHum(1000000, 12)", x.setHum(1000000, 12), 400);
        int[][] bad = {{-1, 100}, {1000001, 100}, {5, 0}, {5, 3}, {5, 5}, {5, 6}, {5, 402}, {5, 404}, {5, -4}, {5, -8}};
        for (int[] b : bad) {
            CHECKS.due("setHum(" + b[0] + ", " + b[1] + ")", x.setHum(b[0], b[1]), BAD);
        }
        for (int extreme : EXTREMES) {
            CHECKS.due("setHum(" + extreme + ", 8)", x.setHum(extreme, 8), BAD);
            CHECKS.due("setHum(8, " + extreme + ")", x.setHum(8, extreme), BAD);
        }
        CHECKS.due("amplitude kept", x.probe(3, 0), 1000000);
        CHECKS.due("period kept", x.setHum(0, 100), 12);
    }

    /** The hum of a period, its truncation, and that it goes on. */
    private static void humShape() {
        SlopeMeter x = new SlopeMeter();
        x.setHum(5, 12);
        int[] wave = {0, 1, 3, 5, 3, 1, 0, -1, -3, -5, -3, -1};
        for (int after = 0; after < 30; after++) {
            CHECKS.due("hum 5, 12 at " + after, x.probe(after, 0), wave[after % 12]);
        }
        x.pass(100);
        for (int after = 0; after < 13; after++) {
            CHECKS.due("hum 5, 12 at 100 + " + after, x.probe(after, 0), wave[(100 + after) % 12]);
        }
        x.setHum(1000000, 4);
        int[] narrow = {0, 1000000, 0, -1000000};
        for (int after = 0; after < 9; after++) {
            CHECKS.due("hum 1000000, 4 at " + after, x.probe(after, 0), narrow[after % 4]);
        }
        x.setHum(1000000, 400);
        CHECKS.due("hum at 100 + 99", x.probe(99, 0), 10000);
        CHECKS.due("hum at 100 + 0", x.probe(0, 0), 1000000);
        CHECKS.due("hum at 100 + 199", x.probe(199, 0), -990000);
        CHECKS.due("hum at 100 + 200", x.probe(200, 0), -1000000);
        CHECKS.due("hum at 100 + 201", x.probe(201, 0), -990000);
        CHECKS.due("hum at 100 + 299", x.probe(299, 0), -10000);
        CHECKS.due("hum at 100 + 300", x.probe(300, 0), 0);
        CHECKS.due("hum at 100 + 399", x.probe(399, 0), 990000);
    }

    /** Promise 4. */
    private static void setOffset() {
        SlopeMeter x = new SlopeMeter();
        CHECKS.due("setOffset(100000, 1000)", x.setOffset(100000, 1000), 100100000);
        CHECKS.due("setOffset(-100000, -1000)", x.setOffset(-100000, -1000), 99900000);
        int[][] bad = {{100001, 0}, {-100001, 0}, {0, 1001}, {0, -1001}};
        for (int[] b : bad) {
            CHECKS.due("setOffset(" + b[0] + ", " + b[1] + ")", x.setOffset(b[0], b[1]), BAD);
        }
        for (int extreme : EXTREMES) {
            CHECKS.due("setOffset(" + extreme + ", 0)", x.setOffset(extreme, 0), BAD);
            CHECKS.due("setOffset(0, " + extreme + ")", x.setOffset(0, extreme), BAD);
        }
        CHECKS.due("offset kept", x.probe(1000, 2), -101000);
    }

    /** The drift is truncated toward 0, and the offset limited. */
    private static void offsetInTime() {
        SlopeMeter x = new SlopeMeter();
        x.pass(1999);
        CHECKS.due("setOffset(10, 1) at 1999", x.setOffset(10, 1), 100000011);
        CHECKS.due("setOffset(10, -1) at 1999", x.setOffset(10, -1), 100000009);
        CHECKS.due("probe(0, 2)", x.probe(0, 2), 9);
        CHECKS.due("probe(1, 2)", x.probe(1, 2), 8);
        x.pass(100000 - 1999);
        for (int i = 0; i < 5; i++) {
            x.pass(100000);
        }
        CHECKS.due("setOffset(-100000, 1000) at 600000", x.setOffset(-100000, 1000), 100500000);
        CHECKS.due("probe(1, 2)", x.probe(1, 2), 500000);
        CHECKS.due("setOffset(-100000, 999)", x.setOffset(-100000, 999), 100499400);
        CHECKS.due("probe(601, 2)", x.probe(601, 2), 500000);
        CHECKS.due("setOffset(100000, -1000)", x.setOffset(100000, -1000), 99500000);
        CHECKS.due("probe(100000, 2)", x.probe(100000, 2), -500000);
        for (int i = 0; i < 94; i++) {
            x.pass(100000);
        }
        CHECKS.due("time", x.count(0), 10000000);
        CHECKS.due("setOffset(0, 1000) beyond an int", x.setOffset(0, 1000), 100500000);
        CHECKS.due("setOffset(0, -1000) beyond an int", x.setOffset(0, -1000), 99500000);
        CHECKS.due("setOffset(0, 3)", x.setOffset(0, 3), 100030000);
    }

    /** Promises 5 and 6. */
    private static void settings() {
        int[] least = {4, 1, 0, 0, 0, 0};
        int[] most = {400, 50, 1, 10, 1, 3};
        int[] initial = {100, 5, 0, 0, 0, 0};
        SlopeMeter x = new SlopeMeter();
        for (int setting = 0; setting < 6; setting++) {
            CHECKS.due("get(" + setting + ")", x.get(setting), initial[setting]);
            CHECKS.due("set least of " + setting, x.set(setting, least[setting]), initial[setting]);
            CHECKS.due("set most of " + setting, x.set(setting, most[setting]), least[setting]);
            CHECKS.due("set below of " + setting, x.set(setting, least[setting] - 1), BAD);
            CHECKS.due("set above of " + setting, x.set(setting, most[setting] + 1), BAD);
            for (int extreme : EXTREMES) {
                CHECKS.due("set(" + setting + ", " + extreme + ")", x.set(setting, extreme), BAD);
            }
            CHECKS.due("get(" + setting + ")", x.get(setting), most[setting]);
        }
        for (int setting = 0; setting < 6; setting++) {
            CHECKS.due("get(" + setting + ") at the end", x.get(setting), most[setting]);
        }
        for (int no : new int[] {-1, 6, 7, Integer.MIN_VALUE, Integer.MAX_VALUE}) {
            CHECKS.due("get(" + no + ")", x.get(no), BAD);
            CHECKS.due("set(" + no + ", 1)", x.set(no, 1), BAD);
            CHECKS.due("set(" + no + ", 5000)", x.set(no, 5000), BAD);
        }
    }

    /** Promise 5: ZERO begins anew, also with the same value, but not if the value is bad. */
    private static void zeroSettingBeginsAgain() {
        SlopeMeter x = new SlopeMeter();
        x.set(SlopeMeter.ZERO, 3);
        x.read();
        CHECKS.due("count(4) after one reading", x.count(4), 2);
        CHECKS.due("set(3, 11)", x.set(SlopeMeter.ZERO, 11), BAD);
        CHECKS.due("count(4) after a bad set", x.count(4), 2);
        x.set(SlopeMeter.WINDOW, 50);
        x.set(SlopeMeter.RANGE, 1);
        CHECKS.due("count(4) after other settings", x.count(4), 2);
        CHECKS.due("set(3, 3)", x.set(SlopeMeter.ZERO, 3), 3);
        CHECKS.due("count(4) after the same value", x.count(4), 0);
        x.read();
        CHECKS.due("set(3, 0)", x.set(SlopeMeter.ZERO, 0), 3);
        CHECKS.due("count(4) without zero conversions", x.count(4), SlopeMeter.NONE);
        x.read();
        CHECKS.due("set(3, 10)", x.set(SlopeMeter.ZERO, 10), 0);
        CHECKS.due("count(4)", x.count(4), 0);
    }

    /** Promise 7. */
    private static void probe() {
        SlopeMeter x = new SlopeMeter();
        x.setLevel(-1234);
        x.setHum(1000, 8);
        x.setOffset(-5, 10);
        long[] inputs = {-1234 + 500, -12340 + 5000, -123400 + 50000, -1234000 + 500000};
        for (int range = 0; range < 4; range++) {
            x.set(SlopeMeter.RANGE, range);
            CHECKS.due("probe(1, 1) in range " + range, x.probe(1, 1), inputs[range]);
            CHECKS.due("probe(2, 0) in range " + range, x.probe(2, 0), 1000);
        }
        CHECKS.due("probe(100000, 2)", x.probe(100000, 2), 995);
        CHECKS.due("probe(100001, 2)", x.probe(100001, 2), Checks.gone(BAD));
        CHECKS.due("probe(-1, 2)", x.probe(-1, 2), Checks.gone(BAD));
        CHECKS.due("probe(0, 3)", x.probe(0, 3), Checks.gone(BAD));
        CHECKS.due("probe(0, -1)", x.probe(0, -1), Checks.gone(BAD));
        for (int extreme : EXTREMES) {
            CHECKS.due("probe(" + extreme + ", 0)", x.probe(extreme, 0), Checks.gone(BAD));
            CHECKS.due("probe(0, " + extreme + ")", x.probe(0, extreme), Checks.gone(BAD));
        }
        CHECKS.due("count(0)", x.count(0), 0);
        x.setHum(1000000, 4);
        x.setLevel(3000000);
        CHECKS.due("greatest input", x.probe(1, 1), 2500000);
        x.set(SlopeMeter.RANGE, 0);
        CHECKS.due("limited input", x.probe(1, 1), 2500000);
        CHECKS.due("input below the limit", x.probe(3, 1), 2000000);
        x.setLevel(-3000000);
        CHECKS.due("limited input below", x.probe(3, 1), -2500000);
        x.set(SlopeMeter.RANGE, 3);
        CHECKS.due("least input", x.probe(3, 1), -2500000);
        x.setLevel(2500);
        x.setHum(0, 4);
        CHECKS.due("input at the limit", x.probe(0, 1), 2500000);
        x.setLevel(-2501);
        CHECKS.due("input below the limit", x.probe(0, 1), -2500000);
    }
}
