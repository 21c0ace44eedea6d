/** Counts the answers that are not the ones that are due. Every test makes one of these. */
final class Checks {
    private final String test;
    private int wrong;
    private int asked;

    Checks(String test) {
        this.test = test;
    }

    void due(String call, long got, long want) {
        asked++;
        if (got != want) {
            wrong++;
            System.out.println(test + ": " + call + " answered " + got + ", due is " + want);
        }
    }

    /** A row of answers, told as one call. */
    void due(String call, long[] got, long[] want) {
        due(call + " number of answers", got.length, want.length);
        for (int i = 0; i < Math.min(got.length, want.length); i++) {
            due(call + " [" + i + "]", got[i], want[i]);
        }
    }

    void finish() {
        System.out.println(test + ": " + asked + " answers, " + wrong + " wrong");
        if (asked == 0 || wrong != 0) {
            System.exit(1);
        }
    }

    /** The answer of a method that returns a long, when it has no number to return. */
    static long gone(int code) {
        return SlopeMeter.GONE + code;
    }

    static void say(SlopeMeter meter, String text) {
        for (int i = 0; i < text.length(); i++) {
            meter.say(text.charAt(i));
        }
    }

    /** Every answer that a meter can give without a change, but for what-ifs. */
    static long[] everything(SlopeMeter meter) {
        long[] all = new long[6 + 6 + 7 + 4 * 7 + 5 + 3 + 1];
        int n = 0;
        for (int what = 0; what < 6; what++) {
            all[n++] = meter.count(what);
            all[n++] = meter.get(what);
        }
        for (int what = 0; what < 7; what++) {
            all[n++] = meter.latest(what);
        }
        int readings = meter.count(1);
        for (int back : new int[] {1, 2, 3, 40}) {
            for (int what = 0; what < 7; what++) {
                all[n++] = meter.log(readings - back, what);
            }
        }
        for (int what = 0; what < 5; what++) {
            all[n++] = meter.statistic(0, what);
        }
        for (int what = 0; what < 3; what++) {
            all[n++] = meter.probe(7, what);
        }
        all[n++] = meter.fault();
        return all;
    }
}
