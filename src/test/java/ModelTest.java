import java.util.Random;

/** Runs of 512 calls, drawn with fixed seeds, on the class and on Model: all answers are the same. */
public final class ModelTest {
    private static final Checks CHECKS = new Checks("ModelTest");
    private static final int RUNS = 400;
    private static final int CALLS = 512;
    private static final String[] STEPS = {"r", "r7", "r99", "z", "w1", "w9999", "l0", "l-20000", "l3000000", "g0", "g3",
        "r1", "r10", "l-0", "l655", "g1", "g2", "w50"};
    private static final String SIGNS = "rzwlg,,-0123456789";
    private static final int[] ODD = {Integer.MIN_VALUE, Integer.MAX_VALUE, -1, 0, 1, 2, 3, 4, 5, 6, 7, 10, 11, 40, 41, 50,
        51, 99, 100, 400, 401, 100000, 100001, 1000000, 1000001, 3000000, 3000001, -3000000, -3000001, 10000000};

    private final Random random;
    private final SlopeMeter meter = new SlopeMeter();
    private final Model model = new Model();
    private final String run;
    private String toSay = "";

    private ModelTest(long seed) {
        random = new Random(seed);
        run = "run " + seed;
    }

    public static void main(String[] args) {
        for (int seed = 0; seed < RUNS; seed++) {
            new ModelTest(seed).go(seed);
        }
        CHECKS.finish();
    }

    private void go(int seed) {
        // Some runs keep to small windows, where slots and overs are frequent, and some to programs.
        int style = seed % 4;
        for (int i = 0; i < CALLS; i++) {
            if (style == 3 && i % 5 != 0) {
                program();
            } else {
                any(style);
            }
        }
    }

    private int between(int least, int most) {
        int where = random.nextInt(40);
        if (where == 0) {
            return ODD[random.nextInt(ODD.length)];
        }
        if (where == 1) {
            return random.nextBoolean() ? least - 1 : most + 1;
        }
        if (where < 5) {
            return random.nextBoolean() ? least : most;
        }
        return least + random.nextInt(most - least + 1);
    }

    private int someLevel() {
        int size = new int[] {3000000, 300000, 30000, 3000, 300, 1500000}[random.nextInt(6)];
        return between(-size, size);
    }

    private int someWindow(int style) {
        return style == 1 ? between(4, 12) : style == 2 ? between(4, 60) : between(4, 400);
    }

    private void program() {
        if (toSay.isEmpty()) {
            toSay = someProgram();
            int run = random.nextInt(8);
            long got = run == 0 ? meter.wipe() : run == 1 ? meter.fault() : meter.run();
            long want = run == 0 ? model.wipe() : run == 1 ? model.fault() : model.run();
            CHECKS.due(this.run + " program", got, want);
        } else {
            int sign = toSay.charAt(0);
            toSay = toSay.substring(1);
            CHECKS.due(run + " say(" + sign + ")", meter.say(sign), model.say(sign));
            CHECKS.due(run + " fault()", meter.fault(), model.fault());
        }
    }

    private String someProgram() {
        StringBuilder text = new StringBuilder();
        int steps = 1 + random.nextInt(random.nextInt(4) == 0 ? 25 : 5);
        for (int i = 0; i < steps; i++) {
            text.append(i > 0 ? "," : "").append(STEPS[random.nextInt(STEPS.length)]);
        }
        if (random.nextInt(3) == 0) {
            int at = random.nextInt(text.length());
            text.insert(at, SIGNS.charAt(random.nextInt(SIGNS.length())));
        }
        return text.toString();
    }

    private void any(int style) {
        int a;
        int b;
        int c;
        switch (random.nextInt(22)) {
            case 0:
                a = someLevel();
                CHECKS.due(run + " setLevel(" + a + ")", meter.setLevel(a), model.setLevel(a));
                break;
            case 1:
                a = between(0, random.nextBoolean() ? 1000000 : 1000);
                b = random.nextInt(9) == 0 ? between(4, 400) : 4 * (1 + random.nextInt(100));
                CHECKS.due(run + " setHum(" + a + ", " + b + ")", meter.setHum(a, b), model.setHum(a, b));
                break;
            case 2:
                a = between(-100000, 100000);
                b = between(-1000, 1000);
                CHECKS.due(run + " setOffset(" + a + ", " + b + ")", meter.setOffset(a, b), model.setOffset(a, b));
                break;
            case 3:
            case 4:
                setSome(style);
                break;
            case 5:
                a = between(0, 5);
                CHECKS.due(run + " get(" + a + ")", meter.get(a), model.get(a));
                break;
            case 6:
                a = between(0, 100000);
                b = between(0, 2);
                CHECKS.due(run + " probe(" + a + ", " + b + ")", meter.probe(a, b), model.probe(a, b));
                break;
            case 7:
            case 8:
            case 9:
                CHECKS.due(run + " read()", meter.read(), model.read());
                break;
            case 10:
                CHECKS.due(run + " zero()", meter.zero(), model.zero());
                break;
            case 11:
                a = between(1, random.nextBoolean() ? 100000 : 100);
                CHECKS.due(run + " pass(" + a + ")", meter.pass(a), model.pass(a));
                break;
            case 12:
                a = meter.count(1) - between(1, 41);
                b = between(0, 6);
                CHECKS.due(run + " log(" + a + ", " + b + ")", meter.log(a, b), model.log(a, b));
                break;
            case 13:
                a = between(0, 6);
                CHECKS.due(run + " latest(" + a + ")", meter.latest(a), model.latest(a));
                break;
            case 14:
                a = meter.count(1) - between(1, 41);
                b = between(0, 4);
                CHECKS.due(run + " statistic(" + a + ", " + b + ")", meter.statistic(a, b), model.statistic(a, b));
                break;
            case 15:
                a = between(0, 5);
                CHECKS.due(run + " count(" + a + ")", meter.count(a), model.count(a));
                break;
            case 16:
                saveOrRestore();
                break;
            case 17:
                program();
                break;
            case 18:
                CHECKS.due(run + " settle()", meter.settle(), model.settle());
                break;
            case 19:
                a = between(1, 16);
                CHECKS.due(run + " ripple(" + a + ")", meter.ripple(a), model.ripple(a));
                break;
            case 20:
                a = someLevel();
                CHECKS.due(run + " wouldRead(" + a + ")", meter.wouldRead(a), model.wouldRead(a));
                break;
            default:
                search(style);
                break;
        }
    }

    private void setSome(int style) {
        int a = between(0, 5);
        int[] most = {0, 50, 1, 10, 1, 3};
        int b = a == 0 ? someWindow(style) : a > 0 && a < 6 ? between(a == 1 ? 1 : 0, most[a]) : 1;
        CHECKS.due(run + " set(" + a + ", " + b + ")", meter.set(a, b), model.set(a, b));
    }

    private void saveOrRestore() {
        int slot = between(0, 1);
        if (random.nextBoolean()) {
            CHECKS.due(run + " save(" + slot + ")", meter.save(slot), model.save(slot));
        } else {
            CHECKS.due(run + " restore(" + slot + ")", meter.restore(slot), model.restore(slot));
        }
    }

    private void search(int style) {
        int a;
        int b;
        int c;
        switch (random.nextInt(3)) {
            case 0:
                a = someWindow(style);
                c = between(1, 12);
                b = random.nextInt(6) == 0 ? between(1, 100) : between(1, Math.max(1, Math.min(100, (400 - a) / 11)));
                CHECKS.due(run + " bestWindow(" + a + ", " + b + ", " + c + ")", meter.bestWindow(a, b, c),
                        model.bestWindow(a, b, c));
                break;
            case 1:
                a = someLevel();
                b = between(1, random.nextBoolean() ? 100000 : 5000);
                c = between(2, 40);
                int what = between(0, 1);
                CHECKS.due(run + " order(" + a + ", " + b + ", " + c + ", " + what + ")", meter.order(a, b, c, what),
                        model.order(a, b, c, what));
                break;
            default:
                a = between(-10000000, 10000000) / (random.nextBoolean() ? 1 : 10);
                CHECKS.due(run + " levelFor(" + a + ")", meter.levelFor(a), model.levelFor(a));
                break;
        }
    }
}
