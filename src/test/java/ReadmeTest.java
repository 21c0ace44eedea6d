/** The examples of README.md, call by call: a reader who tries them is answered what the page says. */
public final class ReadmeTest {
    private static final Checks CHECKS = new Checks("ReadmeTest");

    public static void main(String[] args) {
        SlopeMeter meter = new SlopeMeter();
        makeAndCall(meter);
        fail(meter);
        sayAndRun(meter);
        CHECKS.finish();
    }

    private static void makeAndCall(SlopeMeter meter) {
        CHECKS.due("set(WINDOW, 10)", meter.set(SlopeMeter.WINDOW, 10), 100);
        CHECKS.due("setLevel(1048576)", meter.setLevel(1048576), 0);
        CHECKS.due("read()", meter.read(), 1048576);
        CHECKS.due("latest(0)", meter.latest(0), 160);
        CHECKS.due("log(0, 5)", meter.log(0, 5), 20);
        CHECKS.due("wouldRead(500000)", meter.wouldRead(500000), 498073);
        CHECKS.due("count(1)", meter.count(1), 1);
    }

    private static void fail(SlopeMeter meter) {
        CHECKS.due("setLevel(3000001)", meter.setLevel(3000001), SlopeMeter.BAD_VALUE);
        CHECKS.due("the level then", meter.count(2), 11048576);
        CHECKS.due("ripple(17)", meter.ripple(17), Checks.gone(SlopeMeter.BAD_VALUE));
        CHECKS.due("restore(0)", meter.restore(0), SlopeMeter.NOT_POSSIBLE);
        CHECKS.due("log(1, 0)", meter.log(1, 0), Checks.gone(SlopeMeter.NONE));
    }

    private static void sayAndRun(SlopeMeter meter) {
        String program = "l100000,w20,r3";
        for (int i = 0; i < program.length(); i++) {
            CHECKS.due("say(" + program.charAt(i) + ")", meter.say(program.charAt(i)), i + 1);
        }
        CHECKS.due("fault()", meter.fault(), SlopeMeter.NONE);
        CHECKS.due("run()", meter.run(), 3);
        CHECKS.due("the readings then", meter.count(1), 4);
        meter.say('r');
        meter.say('0');
        CHECKS.due("fault() of r0", meter.fault(), 1);
        CHECKS.due("run() of r0", meter.run(), SlopeMeter.BAD_TEXT);
        CHECKS.due("the readings after r0", meter.count(1), 4);
        CHECKS.due("wipe()", meter.wipe(), 2);
    }
}
