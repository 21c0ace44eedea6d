/** Promises 24 to 26: counts, saving and restoring. */
public final class SavingTest {
    private static final Checks CHECKS = new Checks("SavingTest");
    private static final int BAD = SlopeMeter.BAD_VALUE;
    private static final int[] WRONG = {-1, 2, 3, Integer.MIN_VALUE, Integer.MAX_VALUE};

    public static void main(String[] args) {
        count();
        countUntilZero();
        saveAndRestore();
        slotsAreTheirOwn();
        padAndSlotsAreNotSaved();
        wrongSlots();
        constants();
        CHECKS.finish();
    }

    /** Promise 24. */
    private static void count() {
        SlopeMeter x = new SlopeMeter();
        x.set(SlopeMeter.WINDOW, 4);
        x.setLevel(-3);
        x.setOffset(100000, 0);
        x.zero();
        x.pass(5);
        Checks.say(x, "zz");
        int[] want = {20, 0, 9999997, 10000006, SlopeMeter.NONE, 2};
        for (int what = 0; what < 6; what++) {
            CHECKS.due("count(" + what + ")", x.count(what), want[what]);
        }
        x.read();
        CHECKS.due("count(1)", x.count(1), 1);
        for (int bad : new int[] {-1, 6, 7, Integer.MIN_VALUE, Integer.MAX_VALUE}) {
            CHECKS.due("count(" + bad + ")", x.count(bad), BAD);
        }
    }

    private static void countUntilZero() {
        SlopeMeter x = new SlopeMeter();
        x.read();
        x.set(SlopeMeter.ZERO, 10);
        for (int reading = 0; reading < 23; reading++) {
            CHECKS.due("count(4) before " + reading, x.count(4), (10 - reading % 10) % 10);
            int time = x.count(0);
            x.read();
            CHECKS.due("ticks of reading " + reading, x.count(0) - time, reading % 10 == 0 ? 200 : 100);
        }
        x.set(SlopeMeter.ZERO, 1);
        for (int reading = 0; reading < 3; reading++) {
            CHECKS.due("count(4) with ZERO 1", x.count(4), 0);
            int time = x.count(0);
            x.read();
            CHECKS.due("ticks with ZERO 1", x.count(0) - time, 200);
        }
    }

    private static SlopeMeter busy() {
        SlopeMeter x = new SlopeMeter();
        x.setLevel(16384);
        x.setHum(5000, 36);
        x.setOffset(-700, 30);
        x.set(SlopeMeter.WINDOW, 12);
        x.set(SlopeMeter.SLOT, 3);
        x.set(SlopeMeter.MODE, SlopeMeter.MULTI);
        x.set(SlopeMeter.ZERO, 4);
        x.set(SlopeMeter.AUTO, 1);
        x.set(SlopeMeter.RANGE, 2);
        for (int i = 0; i < 45; i++) {
            x.read();
        }
        return x;
    }

    private static void change(SlopeMeter x) {
        x.setLevel(-1);
        x.setHum(1, 8);
        x.setOffset(1, 2);
        int[] values = {4, 9, 0, 0, 0, 1};
        for (int setting = 0; setting < 6; setting++) {
            x.set(setting, values[setting]);
        }
        x.pass(1234);
        for (int i = 0; i < 41; i++) {
            x.read();
        }
        x.zero();
    }

    /** Promises 25 and 26: everything comes back, and goes on as it would have gone. */
    private static void saveAndRestore() {
        SlopeMeter x = busy();
        CHECKS.due("save(0)", x.save(0), 45);
        long[] before = Checks.everything(x);
        long[] log = wholeLog(x);
        change(x);
        CHECKS.due("restore(0)", x.restore(0), 45);
        CHECKS.due("everything", Checks.everything(x), before);
        CHECKS.due("log", wholeLog(x), log);
        change(x);
        CHECKS.due("restore(0) again", x.restore(0), 45);
        CHECKS.due("everything again", Checks.everything(x), before);
        SlopeMeter y = busy();
        for (int i = 0; i < 9; i++) {
            CHECKS.due("read() after restore", x.read(), y.read());
        }
        CHECKS.due("everything later", Checks.everything(x), Checks.everything(y));
        CHECKS.due("period", x.setHum(0, 4), 36);
    }

    private static long[] wholeLog(SlopeMeter x) {
        long[] all = new long[50];
        for (int i = 0; i < all.length; i++) {
            all[i] = x.log(i, i % 7);
        }
        return all;
    }

    private static void slotsAreTheirOwn() {
        SlopeMeter x = new SlopeMeter();
        CHECKS.due("save(0) before all conversions", x.save(0), 0);
        CHECKS.due("restore(1)", x.restore(1), SlopeMeter.NOT_POSSIBLE);
        x.read();
        x.setLevel(5);
        CHECKS.due("save(1)", x.save(1), 1);
        x.read();
        CHECKS.due("restore(0)", x.restore(0), 0);
        CHECKS.due("level", x.count(2), 10000000);
        CHECKS.due("latest(0)", x.latest(0), Checks.gone(SlopeMeter.NOT_POSSIBLE));
        CHECKS.due("log(0, 0)", x.log(0, 0), Checks.gone(SlopeMeter.NONE));
        CHECKS.due("restore(1)", x.restore(1), 1);
        CHECKS.due("level", x.count(2), 10000005);
        x.setLevel(6);
        CHECKS.due("save(0) over the old", x.save(0), 1);
        x.setLevel(7);
        CHECKS.due("restore(0)", x.restore(0), 1);
        CHECKS.due("level", x.count(2), 10000006);
    }

    private static void padAndSlotsAreNotSaved() {
        SlopeMeter x = new SlopeMeter();
        Checks.say(x, "r");
        x.save(0);
        Checks.say(x, "5");
        x.save(1);
        x.restore(0);
        CHECKS.due("pad after restore", x.count(5), 2);
        CHECKS.due("run() after restore", x.run(), 5);
        CHECKS.due("the slot 1 is kept", x.restore(1), 0);
        CHECKS.due("pad after run and restore", x.count(5), 0);
    }

    private static void wrongSlots() {
        SlopeMeter x = new SlopeMeter();
        for (int wrong : WRONG) {
            CHECKS.due("save(" + wrong + ")", x.save(wrong), BAD);
            CHECKS.due("restore(" + wrong + ")", x.restore(wrong), BAD);
        }
        CHECKS.due("restore(0)", x.restore(0), SlopeMeter.NOT_POSSIBLE);
        CHECKS.due("restore(1)", x.restore(1), SlopeMeter.NOT_POSSIBLE);
    }

    private static void constants() {
        int[] codes = {SlopeMeter.NO_SUCH, SlopeMeter.BAD_VALUE, SlopeMeter.BAD_TEXT, SlopeMeter.TOO_MANY,
            SlopeMeter.NOT_POSSIBLE, SlopeMeter.NONE};
        for (int i = 0; i < codes.length; i++) {
            CHECKS.due("code " + i, codes[i], -1 - i);
        }
        int[] settings = {SlopeMeter.WINDOW, SlopeMeter.SLOT, SlopeMeter.MODE, SlopeMeter.ZERO, SlopeMeter.AUTO,
            SlopeMeter.RANGE};
        for (int i = 0; i < settings.length; i++) {
            CHECKS.due("setting " + i, settings[i], i);
        }
        CHECKS.due("DUAL", SlopeMeter.DUAL, 0);
        CHECKS.due("MULTI", SlopeMeter.MULTI, 1);
        CHECKS.due("GONE", SlopeMeter.GONE, -1000000000000000000L);
    }
}
