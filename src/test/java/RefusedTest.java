/**
 * "A method that fails returns one of the error codes .. and changes nothing": every refused call is made on
 * one of two meters in the same state, and all that the two tell and do from then on is the same. So are the
 * calls that only tell something, and the what-ifs, which "change nothing".
 */
public final class RefusedTest {
    private static final Checks CHECKS = new Checks("RefusedTest");
    private static final int BAD = SlopeMeter.BAD_VALUE;
    private static final int BAD_TEXT = SlopeMeter.BAD_TEXT;
    private static final int TOO_MANY = SlopeMeter.TOO_MANY;
    private static final int NOT_POSSIBLE = SlopeMeter.NOT_POSSIBLE;
    private static final int NONE = SlopeMeter.NONE;
    private static final int LEAST = Integer.MIN_VALUE;
    private static final int MOST = Integer.MAX_VALUE;

    public static void main(String[] args) {
        for (int state = 0; state < 3; state++) {
            signal(state);
            settings(state);
            readings(state);
            whatIfs(state);
            textsAndSlots(state);
            tellingCalls(state);
            rightWhatIfs(state);
        }
        stateOfItsOwn();
        nothingIsLeftOver();
        tooManyReadings();
        CHECKS.finish();
    }

    private static SlopeMeter meterIn(int state) {
        return state == 0 ? new SlopeMeter() : state == 1 ? States.busy() : States.busyWithAFullPad();
    }

    /** Makes the call on the one of two meters, and compares what becomes of both. */
    private static void same(int state, String name, States.Call call, long want) {
        SlopeMeter x = meterIn(state);
        CHECKS.due(name + " in state " + state, call.on(x), want);
        CHECKS.due("behind " + name + " in state " + state, States.future(x), States.future(meterIn(state)));
    }

    private static void same(int state, String name, States.Call call) {
        same(state, name, call, call.on(meterIn(state)));
    }

    /** The same for an error code of a method that returns a long. */
    private static void gone(int state, String name, States.Call call, int code) {
        same(state, name, call, Checks.gone(code));
    }

    private static void signal(int state) {
        for (int bad : new int[] {-3000001, 3000001, LEAST, MOST}) {
            same(state, "setLevel(" + bad + ")", x -> x.setLevel(bad), BAD);
        }
        for (int bad : new int[] {-1, 1000001, LEAST, MOST}) {
            same(state, "setHum(" + bad + ", 12)", x -> x.setHum(bad, 12), BAD);
        }
        for (int bad : new int[] {-4, 0, 3, 5, 6, 399, 401, 404, LEAST, MOST}) {
            same(state, "setHum(7, " + bad + ")", x -> x.setHum(7, bad), BAD);
        }
        for (int bad : new int[] {-100001, 100001, LEAST, MOST}) {
            same(state, "setOffset(" + bad + ", 7)", x -> x.setOffset(bad, 7), BAD);
        }
        for (int bad : new int[] {-1001, 1001, LEAST, MOST}) {
            same(state, "setOffset(7, " + bad + ")", x -> x.setOffset(7, bad), BAD);
        }
    }

    private static void settings(int state) {
        int[][] bad = {{3, 401}, {0, 51}, {-1, 2}, {-1, 11}, {-1, 2}, {-1, 4}};
        for (int setting = 0; setting < 6; setting++) {
            int which = setting;
            for (int value : new int[] {bad[setting][0], bad[setting][1], LEAST, MOST}) {
                same(state, "set(" + setting + ", " + value + ")", x -> x.set(which, value), BAD);
            }
        }
        for (int no : new int[] {-1, 6, LEAST, MOST}) {
            same(state, "set(" + no + ", 1)", x -> x.set(no, 1), BAD);
            same(state, "get(" + no + ")", x -> x.get(no), BAD);
        }
    }

    private static void readings(int state) {
        for (int bad : new int[] {-1, 100001, LEAST, MOST}) {
            gone(state, "probe(" + bad + ", 1)", x -> x.probe(bad, 1), BAD);
        }
        for (int bad : new int[] {-1, 3, LEAST, MOST}) {
            gone(state, "probe(1, " + bad + ")", x -> x.probe(1, bad), BAD);
        }
        for (int bad : new int[] {-1, 0, 100001, LEAST, MOST}) {
            same(state, "pass(" + bad + ")", x -> x.pass(bad), BAD);
        }
        for (int bad : new int[] {-1, 7, LEAST, MOST}) {
            gone(state, "log(0, " + bad + ")", x -> x.log(0, bad), BAD);
            gone(state, "latest(" + bad + ")", x -> x.latest(bad), BAD);
        }
        for (int no : new int[] {-1, 48, 10000, LEAST, MOST}) {
            gone(state, "log(" + no + ", 0)", x -> x.log(no, 0), NONE);
        }
        for (int bad : new int[] {-1, 5, LEAST, MOST}) {
            gone(state, "statistic(0, " + bad + ")", x -> x.statistic(0, bad), BAD);
        }
        gone(state, "statistic(-1, 0)", x -> x.statistic(-1, 0), BAD);
        gone(state, "statistic(48, 1)", x -> x.statistic(48, 1), NONE);
    }

    private static void whatIfs(int state) {
        for (int bad : new int[] {-3000001, 3000001, LEAST, MOST}) {
            gone(state, "wouldRead(" + bad + ")", x -> x.wouldRead(bad), BAD);
            same(state, "order(" + bad + ", 1, 2, 0)", x -> x.order(bad, 1, 2, 0), BAD);
        }
        for (int bad : new int[] {0, 17, LEAST, MOST}) {
            gone(state, "ripple(" + bad + ")", x -> x.ripple(bad), BAD);
        }
        for (int bad : new int[] {3, 401, LEAST, MOST}) {
            same(state, "bestWindow(" + bad + ", 1, 1)", x -> x.bestWindow(bad, 1, 1), BAD);
        }
        for (int bad : new int[] {0, 101, LEAST, MOST}) {
            same(state, "bestWindow(4, " + bad + ", 2)", x -> x.bestWindow(4, bad, 2), BAD);
        }
        for (int bad : new int[] {0, 13, LEAST, MOST}) {
            same(state, "bestWindow(4, 1, " + bad + ")", x -> x.bestWindow(4, 1, bad), BAD);
        }
        same(state, "bestWindow(301, 100, 2)", x -> x.bestWindow(301, 100, 2), BAD);
        for (int bad : new int[] {0, 100001, LEAST, MOST}) {
            same(state, "order(0, " + bad + ", 2, 0)", x -> x.order(0, bad, 2, 0), BAD);
        }
        for (int bad : new int[] {1, 41, LEAST, MOST}) {
            same(state, "order(0, 1, " + bad + ", 0)", x -> x.order(0, 1, bad, 0), BAD);
        }
        for (int bad : new int[] {-1, 2, LEAST, MOST}) {
            same(state, "order(0, 1, 2, " + bad + ")", x -> x.order(0, 1, 2, bad), BAD);
        }
        same(state, "order(2900001, 100000, 2, 0)", x -> x.order(2900001, 100000, 2, 0), BAD);
        for (int bad : new int[] {-10000001, 10000001, LEAST, MOST}) {
            gone(state, "levelFor(" + bad + ")", x -> x.levelFor(bad), BAD);
        }
        gone(state, "levelFor(10000000)", x -> x.levelFor(10000000), NONE);
    }

    private static void textsAndSlots(int state) {
        for (int bad : new int[] {32, 127, LEAST, MOST}) {
            same(state, "say(" + bad + ")", x -> x.say(bad), BAD);
        }
        if (state == 2) {
            same(state, "say('z')", x -> x.say('z'), TOO_MANY);
            same(state, "say(33)", x -> x.say(33), TOO_MANY);
        } else {
            same(state, "run()", x -> x.run(), BAD_TEXT);
        }
        for (int bad : new int[] {-1, 6, LEAST, MOST}) {
            same(state, "count(" + bad + ")", x -> x.count(bad), BAD);
        }
        for (int bad : new int[] {-1, 2, LEAST, MOST}) {
            same(state, "save(" + bad + ")", x -> x.save(bad), BAD);
            same(state, "restore(" + bad + ")", x -> x.restore(bad), BAD);
        }
        if (state == 0) {
            same(state, "restore(0)", x -> x.restore(0), NOT_POSSIBLE);
            same(state, "restore(1)", x -> x.restore(1), NOT_POSSIBLE);
            gone(state, "latest(0)", x -> x.latest(0), NOT_POSSIBLE);
        }
    }

    /** The calls that only tell something. */
    private static void tellingCalls(int state) {
        for (int what = 0; what < 6; what++) {
            int which = what;
            same(state, "get(" + what + ")", x -> x.get(which));
            same(state, "count(" + what + ")", x -> x.count(which));
            same(state, "latest(" + what + ")", x -> x.latest(which));
            same(state, "log(47, " + what + ")", x -> x.log(47, which));
            same(state, "statistic(9, " + what + ")", x -> x.statistic(9, which));
            same(state, "probe(9, " + what + ")", x -> x.probe(9, which));
        }
        same(state, "fault()", x -> x.fault());
    }

    private static void rightWhatIfs(int state) {
        for (int level : new int[] {-3000000, -2345, 0, 3000000}) {
            same(state, "wouldRead(" + level + ")", x -> x.wouldRead(level));
        }
        for (int n : new int[] {1, 2, 16}) {
            same(state, "ripple(" + n + ")", x -> x.ripple(n));
        }
        same(state, "bestWindow(4, 36, 12)", x -> x.bestWindow(4, 36, 12));
        same(state, "bestWindow(400, 1, 1)", x -> x.bestWindow(400, 1, 1));
        for (int what = 0; what < 2; what++) {
            int which = what;
            same(state, "order(-900000, 100000, 40, " + what + ")", x -> x.order(-900000, 100000, 40, which));
        }
        for (int value : new int[] {-10000000, -1, 0, 1, 2000}) {
            same(state, "levelFor(" + value + ")", x -> x.levelFor(value));
        }
        same(state, "settle()", x -> x.settle());
    }

    /** The comparison itself tells states apart: each of these calls is seen. */
    private static void stateOfItsOwn() {
        States.Call[] changes = {x -> x.setLevel(-2344), x -> x.setHum(5001, 36), x -> x.setHum(5000, 32),
            x -> x.setOffset(-699, 30), x -> x.setOffset(-700, 29), x -> x.set(0, 11), x -> x.set(1, 2), x -> x.set(2, 0),
            x -> x.set(3, 7), x -> x.set(3, 6), x -> x.set(4, 0), x -> x.set(5, 0), x -> x.read(), x -> x.zero(),
            x -> x.pass(36), x -> x.say('r'), x -> x.wipe(), x -> x.save(0), x -> x.save(1), x -> x.restore(0), x -> x.restore(1)};
        for (int i = 0; i < changes.length; i++) {
            SlopeMeter x = States.busy();
            changes[i].on(x);
            boolean isSame = java.util.Arrays.equals(States.future(x), States.future(States.busy()));
            CHECKS.due("change " + i + " is not seen", isSame ? 1 : 0, 0);
        }
    }

    /** Many refused calls in a row, and all of them on the same meter. */
    private static void nothingIsLeftOver() {
        SlopeMeter x = States.busy();
        for (int i = 0; i < 3; i++) {
            x.setLevel(MOST);
            x.setHum(9, 9);
            x.setOffset(LEAST, 0);
            x.set(0, 0);
            x.set(3, -1);
            x.pass(0);
            x.run();
            x.say(0);
            x.save(2);
            x.restore(-1);
            x.bestWindow(4, 100, 12);
            x.order(0, 1, 41, 0);
            x.levelFor(MOST);
        }
        CHECKS.due("behind many refused calls", States.future(x), States.future(States.busy()));
    }

    /** At 10000 readings, read() and run() are refused; here the calls left allow no more than a look. */
    private static void tooManyReadings() {
        SlopeMeter x = atTheLast("r");
        SlopeMeter y = atTheLast("r");
        CHECKS.due("read()", x.read(), Checks.gone(TOO_MANY));
        CHECKS.due("behind read()", States.seen(x), States.seen(y));
        x = atTheLast("r");
        y = atTheLast("r");
        CHECKS.due("run()", x.run(), TOO_MANY);
        CHECKS.due("behind run()", States.seen(x), States.seen(y));
        x = atTheLast("w9,l-5,z,g1,r");
        CHECKS.due("run() with other steps", x.run(), TOO_MANY);
        CHECKS.due("behind run() with other steps", States.seen(x), States.seen(atTheLast("w9,l-5,z,g1,r")));
    }

    private static SlopeMeter atTheLast(String text) {
        SlopeMeter x = States.beforeTheLastReading();
        x.read();
        Checks.say(x, text);
        return x;
    }
}
