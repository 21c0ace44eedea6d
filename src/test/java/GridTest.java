import java.util.ArrayList;
import java.util.List;

/**
 * Each method with every combination of arguments that lie just inside, at and just beyond the ends of their
 * ranges, and at the ends of an int: the class and Model answer the same, in several states.
 */
public final class GridTest {
    private static final Checks CHECKS = new Checks("GridTest");
    private static final int CALLS = 400;
    private static final int[] LEVELS = ends(-3000000, 3000000);
    private static final int[] WHATS = {Integer.MIN_VALUE, -1, 0, 1, 2, 3, 4, 5, 6, 7, Integer.MAX_VALUE};

    /** The same call on the class and on its model. */
    private interface Both {
        long[] on(SlopeMeter meter, Model model);
    }

    private final int state;
    private SlopeMeter meter;
    private Model model;
    private int calls;

    private GridTest(int state) {
        this.state = state;
        makeNew();
    }

    public static void main(String[] args) {
        for (int state = 0; state < 4; state++) {
            GridTest grid = new GridTest(state);
            grid.signal();
            grid.settings();
            grid.telling();
            grid.singles();
            grid.windows();
            grid.orders();
        }
        CHECKS.finish();
    }

    private static int[] ends(int least, int most) {
        int[] around = {Integer.MIN_VALUE, least - 1, least, least + 1, 0, most - 1, most, most + 1, Integer.MAX_VALUE};
        List<Integer> all = new ArrayList<>();
        for (int value : around) {
            if (!all.contains(value)) {
                all.add(value);
            }
        }
        return all.stream().mapToInt(Integer::intValue).toArray();
    }

    private void both(String call, long got, long want) {
        CHECKS.due(call + " in state " + state, got, want);
    }

    private void makeNew() {
        meter = new SlopeMeter();
        model = new Model();
        calls = 0;
        if (state == 0) {
            return;
        }
        both("set", meter.set(0, 5), model.set(0, 5));
        both("setHum", meter.setHum(30000, 12), model.setHum(30000, 12));
        both("setOffset", meter.setOffset(-5000, 300), model.setOffset(-5000, 300));
        both("set", meter.set(3, 2), model.set(3, 2));
        both("set", meter.set(4, 1), model.set(4, 1));
        both("setLevel", meter.setLevel(-70000), model.setLevel(-70000));
        both("read", meter.read(), model.read());
        both("save", meter.save(0), model.save(0));
        if (state >= 2) {
            both("set", meter.set(2, 1), model.set(2, 1));
            both("set", meter.set(1, 2), model.set(1, 2));
            for (char sign : "r42,z,l90000,r".toCharArray()) {
                both("say", meter.say(sign), model.say(sign));
            }
            both("run", meter.run(), model.run());
        }
        if (state == 3) {
            both("set", meter.set(1, 50), model.set(1, 50));
            both("set", meter.set(5, 3), model.set(5, 3));
            for (int i = 0; i < 60; i++) {
                both("say", meter.say('0' + i), model.say('0' + i));
            }
        }
    }

    /** An object is used for so many calls only; then a new one is brought into the same state. */
    private void ask(String call, Both both) {
        if (calls >= CALLS) {
            makeNew();
        }
        calls++;
        long[] answers = both.on(meter, model);
        both(call, answers[0], answers[1]);
    }

    private void askAnew(String call, Both both) {
        makeNew();
        ask(call, both);
        for (int what = 0; what < 6; what++) {
            int which = what;
            ask("count(" + what + ") behind " + call, (m, o) -> new long[] {m.count(which), o.count(which)});
            ask("get(" + what + ") behind " + call, (m, o) -> new long[] {m.get(which), o.get(which)});
            ask("probe(7, " + what + ") behind " + call, (m, o) -> new long[] {m.probe(7, which), o.probe(7, which)});
            ask("latest(" + what + ") behind " + call, (m, o) -> new long[] {m.latest(which), o.latest(which)});
        }
        ask("read() behind " + call, (m, o) -> new long[] {m.read(), o.read()});
    }

    private void signal() {
        for (int a : LEVELS) {
            askAnew("setLevel(" + a + ")", (m, o) -> new long[] {m.setLevel(a), o.setLevel(a)});
        }
        for (int a : ends(0, 1000000)) {
            for (int b : new int[] {Integer.MIN_VALUE, -4, 0, 3, 4, 5, 6, 8, 396, 399, 400, 401, 404, Integer.MAX_VALUE}) {
                askAnew("setHum(" + a + ", " + b + ")", (m, o) -> new long[] {m.setHum(a, b), o.setHum(a, b)});
            }
        }
        for (int a : ends(-100000, 100000)) {
            for (int b : ends(-1000, 1000)) {
                askAnew("setOffset(" + a + ", " + b + ")", (m, o) -> new long[] {m.setOffset(a, b), o.setOffset(a, b)});
            }
        }
        for (int a : ends(1, 100000)) {
            askAnew("pass(" + a + ")", (m, o) -> new long[] {m.pass(a), o.pass(a)});
        }
    }

    private void settings() {
        for (int a : WHATS) {
            for (int b : new int[] {Integer.MIN_VALUE, -1, 0, 1, 2, 3, 4, 5, 9, 10, 11, 49, 50, 51, 399, 400, 401, Integer.MAX_VALUE}) {
                askAnew("set(" + a + ", " + b + ")", (m, o) -> new long[] {m.set(a, b), o.set(a, b)});
            }
            askAnew("save(" + a + ")", (m, o) -> new long[] {m.save(a), o.save(a)});
            askAnew("restore(" + a + ")", (m, o) -> new long[] {m.restore(a), o.restore(a)});
        }
        for (int a : ends(33, 126)) {
            askAnew("say(" + a + ")", (m, o) -> new long[] {m.say(a), o.say(a)});
        }
        askAnew("wipe()", (m, o) -> new long[] {m.wipe(), o.wipe()});
        askAnew("run()", (m, o) -> new long[] {m.run(), o.run()});
        askAnew("zero()", (m, o) -> new long[] {m.zero(), o.zero()});
    }

    private void telling() {
        for (int b : WHATS) {
            for (int a : new int[] {Integer.MIN_VALUE, -1, 0, 1, 2, 3, 4, 5, 41, 42, 43, 44, 45, 10000, Integer.MAX_VALUE}) {
                ask("log(" + a + ", " + b + ")", (m, o) -> new long[] {m.log(a, b), o.log(a, b)});
                ask("statistic(" + a + ", " + b + ")", (m, o) -> new long[] {m.statistic(a, b), o.statistic(a, b)});
            }
            for (int a : ends(0, 100000)) {
                ask("probe(" + a + ", " + b + ")", (m, o) -> new long[] {m.probe(a, b), o.probe(a, b)});
            }
            ask("latest(" + b + ")", (m, o) -> new long[] {m.latest(b), o.latest(b)});
            ask("count(" + b + ")", (m, o) -> new long[] {m.count(b), o.count(b)});
            ask("get(" + b + ")", (m, o) -> new long[] {m.get(b), o.get(b)});
        }
        ask("fault()", (m, o) -> new long[] {m.fault(), o.fault()});
    }

    private void singles() {
        for (int a : LEVELS) {
            ask("wouldRead(" + a + ")", (m, o) -> new long[] {m.wouldRead(a), o.wouldRead(a)});
        }
        for (int a : new int[] {Integer.MIN_VALUE, -1, 0, 1, 2, 3, 7, 8, 9, 15, 16, 17, Integer.MAX_VALUE}) {
            ask("ripple(" + a + ")", (m, o) -> new long[] {m.ripple(a), o.ripple(a)});
        }
        for (int a : ends(-10000000, 10000000)) {
            ask("levelFor(" + a + ")", (m, o) -> new long[] {m.levelFor(a), o.levelFor(a)});
        }
        for (int a = -80000; a <= 80000; a += 3999) {
            int value = a;
            ask("levelFor(" + a + ")", (m, o) -> new long[] {m.levelFor(value), o.levelFor(value)});
        }
        ask("settle()", (m, o) -> new long[] {m.settle(), o.settle()});
    }

    private void windows() {
        for (int a : new int[] {Integer.MIN_VALUE, 0, 3, 4, 5, 300, 399, 400, 401, Integer.MAX_VALUE}) {
            for (int b : new int[] {Integer.MIN_VALUE, -1, 0, 1, 2, 36, 99, 100, 101, Integer.MAX_VALUE}) {
                for (int c : new int[] {Integer.MIN_VALUE, -1, 0, 1, 2, 11, 12, 13, Integer.MAX_VALUE}) {
                    ask("bestWindow(" + a + ", " + b + ", " + c + ")",
                            (m, o) -> new long[] {m.bestWindow(a, b, c), o.bestWindow(a, b, c)});
                }
            }
        }
    }

    private void orders() {
        for (int a : new int[] {Integer.MIN_VALUE, -3000001, -3000000, -900000, -899999, 0, 2900000, 2999999, 3000000, 3000001,
                Integer.MAX_VALUE}) {
            for (int b : new int[] {Integer.MIN_VALUE, -1, 0, 1, 2, 99999, 100000, 100001, Integer.MAX_VALUE}) {
                for (int c : new int[] {Integer.MIN_VALUE, -1, 0, 1, 2, 3, 39, 40, 41, Integer.MAX_VALUE}) {
                    for (int d : new int[] {Integer.MIN_VALUE, -1, 0, 1, 2, Integer.MAX_VALUE}) {
                        ask("order(" + a + ", " + b + ", " + c + ", " + d + ")",
                                (m, o) -> new long[] {m.order(a, b, c, d), o.order(a, b, c, d)});
                    }
                }
            }
        }
    }
}
