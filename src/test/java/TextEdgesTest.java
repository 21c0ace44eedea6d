/** The boundary cases of "TEXTS", and of promises 20 to 23. */
public final class TextEdgesTest {
    private static final Checks CHECKS = new Checks("TextEdgesTest");
    private static final int BAD = SlopeMeter.BAD_VALUE;
    private static final int BAD_TEXT = SlopeMeter.BAD_TEXT;
    private static final int TOO_MANY = SlopeMeter.TOO_MANY;
    private static final int NOT_POSSIBLE = SlopeMeter.NOT_POSSIBLE;
    private static final int NONE = SlopeMeter.NONE;
    private static final String FIFTY_NINE = "r,z,r,z,r,z,r,z,r,z,r,z,r,z,r,z,r,z,r,z,r,z,r,z,r,z,r,z,r,z";

    public static void main(String[] args) {
        sayCodes();
        sayToAFullPad();
        wipeEmptyAndFull();
        emptyPad();
        faultOfTheLength();
        faultOfAFullPad();
        numberOfReadings();
        numberOfTicks();
        numberOfALevel();
        numberWithLeadingZeros();
        numberThatIsMissing();
        digitOfARange();
        commas();
        faultIsTheFirst();
        runOfAnEmptyPad();
        runOfABadText();
        runEmptiesThePad();
        runOfAFullPad();
        runOfTheGreatestNumbers();
        runDoesNothingElse();
        runCountsReadings();
        runOfTooMany();
        runAtTheLastTime();
        CHECKS.finish();
    }

    private static SlopeMeter with(String text) {
        SlopeMeter x = States.meter(4, 0);
        Checks.say(x, text);
        return x;
    }

    private static void faultIs(String text, int want) {
        SlopeMeter x = with(text);
        CHECKS.due("fault() of " + text, x.fault(), want);
        CHECKS.due("count(5) of " + text, x.count(5), text.length());
        if (want != NONE) {
            CHECKS.due("run() of " + text, x.run(), BAD_TEXT);
            CHECKS.due("count(5) of " + text + " then", x.count(5), text.length());
        }
    }

    /** "its code, 33 to 126". */
    private static void sayCodes() {
        SlopeMeter x = new SlopeMeter();
        for (int code = -3; code <= 300; code++) {
            boolean isRight = code >= 33 && code <= 126;
            CHECKS.due("say(" + code + ")", x.say(code), isRight ? 1 : BAD);
            CHECKS.due("wipe() of " + code, isRight ? x.wipe() : 1, 1);
        }
        for (int code : new int[] {'z' + 65536, 'z' - 65536, 'z' + 256, Integer.MIN_VALUE, Integer.MAX_VALUE}) {
            CHECKS.due("say(" + code + ")", x.say(code), BAD);
        }
        CHECKS.due("count(5)", x.count(5), 0);
    }

    /** "at most 60 characters", "TOO_MANY if the pad has 60 characters", and BAD_VALUE before it. */
    private static void sayToAFullPad() {
        SlopeMeter x = new SlopeMeter();
        for (int length = 1; length <= 60; length++) {
            CHECKS.due("say() number " + length, x.say(FIFTY_NINE.charAt((length - 1) % 59)), length);
        }
        for (int code : new int[] {33, 'z', ',', 126}) {
            CHECKS.due("say(" + code + ") to a full pad", x.say(code), TOO_MANY);
        }
        for (int code : new int[] {32, 127, -1, Integer.MIN_VALUE, Integer.MAX_VALUE}) {
            CHECKS.due("say(" + code + ") to a full pad", x.say(code), BAD);
        }
        CHECKS.due("count(5)", x.count(5), 60);
        CHECKS.due("fault() as before", x.fault(), 59);
    }

    /** "Returns the length that it had": 0, 1 and 60; and a wiped pad takes 60 characters again. */
    private static void wipeEmptyAndFull() {
        SlopeMeter x = new SlopeMeter();
        CHECKS.due("wipe() of an empty pad", x.wipe(), 0);
        CHECKS.due("wipe() again", x.wipe(), 0);
        Checks.say(x, "w");
        CHECKS.due("wipe() of one", x.wipe(), 1);
        Checks.say(x, FIFTY_NINE);
        CHECKS.due("say() of the last", x.say('9'), 60);
        CHECKS.due("wipe() of a full pad", x.wipe(), 60);
        CHECKS.due("count(5)", x.count(5), 0);
        CHECKS.due("fault() of a wiped pad", x.fault(), 0);
        Checks.say(x, FIFTY_NINE);
        CHECKS.due("say() of the last again", x.say(','), 60);
        CHECKS.due("say() to the full pad", x.say(','), TOO_MANY);
    }

    private static void emptyPad() {
        SlopeMeter x = new SlopeMeter();
        CHECKS.due("count(5)", x.count(5), 0);
        CHECKS.due("fault()", x.fault(), 0);
        CHECKS.due("run()", x.run(), BAD_TEXT);
        CHECKS.due("say('z')", x.say('z'), 1);
        CHECKS.due("fault() of z", x.fault(), NONE);
    }

    /** "if there is no such character, it is the length of the text". */
    private static void faultOfTheLength() {
        String[] texts = {"", "w", "l", "l-", "g", "r,", "r9,", "z,", "w1,", "l0,", "g3,", "r,w", "r,l", "r,l-", "r,g", "z,z,z,"};
        for (String text : texts) {
            faultIs(text, text.length());
        }
    }

    /** "(The greatest length of the text does not matter for this.)" */
    private static void faultOfAFullPad() {
        faultIs(FIFTY_NINE, NONE);
        faultIs(FIFTY_NINE + ",", 60);
        faultIs(FIFTY_NINE + "z", 59);
        faultIs("r1," + FIFTY_NINE.substring(0, 57), NONE);
        faultIs("l3," + FIFTY_NINE.substring(0, 54) + "l-1", NONE);
        faultIs("z," + FIFTY_NINE.substring(0, 56) + "l-", 60);
        faultIs("l3," + FIFTY_NINE.substring(0, 55) + "l-", 58);
        faultIs("l3," + FIFTY_NINE.substring(0, 54) + ",l-", 57);
        faultIs("zz" + FIFTY_NINE.substring(0, 58), 1);
    }

    /** "for "r" 1 to 99". */
    private static void numberOfReadings() {
        faultIs("r", NONE);
        faultIs("r0", 1);
        for (int number = 1; number <= 99; number++) {
            faultIs("r" + number, NONE);
        }
        for (int number : new int[] {100, 101, 109, 110, 199, 200, 990, 991, 999, 1000, 9999}) {
            faultIs("r" + number, 3);
        }
        faultIs("r-1", 1);
    }

    /** "for "w" 1 to 9999". */
    private static void numberOfTicks() {
        faultIs("w0", 1);
        for (int number : new int[] {1, 2, 9, 10, 11, 99, 100, 101, 999, 1000, 1001, 9998, 9999}) {
            faultIs("w" + number, NONE);
        }
        for (int number : new int[] {10000, 10001, 19999, 99990, 99999, 100000, 1000000}) {
            faultIs("w" + number, 5);
        }
        faultIs("w-1", 1);
    }

    /** "A number is 0 to 3000000", above 0 and behind the sign. */
    private static void numberOfALevel() {
        for (String sign : new String[] {"", "-"}) {
            for (int number : new int[] {0, 1, 9, 10, 99999, 100000, 299999, 300000, 300001, 999999, 1000000, 1999999,
                    2000000, 2999998, 2999999, 3000000}) {
                faultIs("l" + sign + number, NONE);
            }
            for (int number : new int[] {3000001, 3000009, 3000010, 3000099, 3000100, 3010000, 3100000, 3999999, 4000000, 9999999}) {
                faultIs("l" + sign + number, 7 + sign.length());
            }
            for (int number : new int[] {10000000, 10000001, 29999999, 30000000}) {
                faultIs("l" + sign + number, 8 + sign.length());
            }
            // a seventh digit too many comes before an eighth one
            for (String number : new String[] {"30000010", "31000000", "2147483648", "4294967296", "4294967297", "99999999999"}) {
                boolean hasSevenRight = number.charAt(0) < '3' || number.startsWith("3000000");
                faultIs("l" + sign + number, (hasSevenRight ? 8 : 7) + sign.length());
            }
            faultIs("l" + sign + "18446744073709551617", 8 + sign.length());
        }
    }

    /** "without leading zeros". */
    private static void numberWithLeadingZeros() {
        faultIs("r01", 1);
        faultIs("r00", 1);
        faultIs("w01", 1);
        faultIs("w00", 1);
        faultIs("l00", 2);
        faultIs("l01", 2);
        faultIs("l-00", 3);
        faultIs("l-01", 3);
        faultIs("l0,l-0", NONE);
        faultIs("g00", 2);
        faultIs("g01", 2);
        faultIs("r10,w10,l10,l100", NONE);
    }

    /** "r" alone goes without a number. */
    private static void numberThatIsMissing() {
        faultIs("w,z", 1);
        faultIs("l,z", 1);
        faultIs("l-,z", 2);
        faultIs("g,z", 1);
        faultIs("r,z", NONE);
        faultIs("l--1", 2);
        faultIs("l1-", 2);
        faultIs("-1", 0);
    }

    /** ""g" for a range (0 to 3)". */
    private static void digitOfARange() {
        for (int digit = 0; digit <= 9; digit++) {
            faultIs("g" + digit, digit <= 3 ? NONE : 1);
        }
        faultIs("g/", 1);
        faultIs("g-1", 1);
        faultIs("g10", 2);
        faultIs("g30", 2);
    }

    private static void commas() {
        faultIs(",", 0);
        faultIs(",r", 0);
        faultIs("r,,r", 2);
        faultIs("r,", 2);
        faultIs("r;r", 1);
        faultIs("r1,r2", NONE);
        faultIs("z,r,w1,l1,g1,r1", NONE);
    }

    /** "the index of the first character with which, after all characters before it, no correct text can begin". */
    private static void faultIsTheFirst() {
        faultIs("x", 0);
        faultIs("xr", 0);
        faultIs("r0r0", 1);
        faultIs("z,x,x", 2);
        faultIs("z,r0,r0", 3);
        faultIs("z,r1,r0", 6);
        faultIs("z,z1,z1", 3);
        faultIs("R", 0);
        faultIs("z,Z", 2);
    }

    /** "BAD_TEXT if the text is not correct": an empty one is not. */
    private static void runOfAnEmptyPad() {
        SlopeMeter x = with("");
        CHECKS.due("run()", x.run(), BAD_TEXT);
        Checks.say(x, "r");
        CHECKS.due("run() of r", x.run(), 1);
        CHECKS.due("run() of the emptied pad", x.run(), BAD_TEXT);
        CHECKS.due("count(1)", x.count(1), 1);
    }

    /** A fault at the very end leaves all steps before it undone, and the pad as it is. */
    private static void runOfABadText() {
        SlopeMeter x = with("l5,w9,g1,z,r2,");
        long[] before = States.seen(x);
        CHECKS.due("run()", x.run(), BAD_TEXT);
        CHECKS.due("everything", States.seen(x), before);
        Checks.say(x, "r");
        CHECKS.due("run() of what has become correct", x.run(), 3);
        CHECKS.due("level", x.count(2), 10000005);
    }

    private static void runEmptiesThePad() {
        SlopeMeter x = with("z");
        CHECKS.due("run()", x.run(), 0);
        CHECKS.due("count(5)", x.count(5), 0);
        CHECKS.due("wipe()", x.wipe(), 0);
        CHECKS.due("fault()", x.fault(), 0);
        CHECKS.due("say('r')", x.say('r'), 1);
        CHECKS.due("fault() of r", x.fault(), NONE);
    }

    private static void runOfAFullPad() {
        SlopeMeter x = with("l1," + FIFTY_NINE.substring(0, 57));
        CHECKS.due("count(5)", x.count(5), 60);
        CHECKS.due("run()", x.run(), 15);
        CHECKS.due("count(5) then", x.count(5), 0);
        CHECKS.due("count(1)", x.count(1), 15);
        // 29 conversions: readings of 4 ticks, one and 16 more for the level 1, and zero conversions of 4
        CHECKS.due("count(0)", x.count(0), 15 * 21 + 14 * 4);
    }

    /** The least and the greatest number of each step, and 1 without a number. */
    private static void runOfTheGreatestNumbers() {
        SlopeMeter x = with("r,r1,r99");
        CHECKS.due("run() of r,r1,r99", x.run(), 101);
        int time = x.count(0);
        Checks.say(x, "w1,w9999");
        CHECKS.due("run() of w1,w9999", x.run(), 0);
        CHECKS.due("count(0)", x.count(0) - time, 10000);
        String[] levels = {"l3000000", "l-3000000", "l0", "l-0", "l1", "l-1"};
        int[] want = {3000000, -3000000, 0, 0, 1, -1};
        for (int i = 0; i < levels.length; i++) {
            Checks.say(x, levels[i]);
            CHECKS.due("run() of " + levels[i], x.run(), 0);
            CHECKS.due("level", x.count(2), 10000000 + want[i]);
        }
        for (int range = 3; range >= 0; range--) {
            Checks.say(x, "g" + range);
            CHECKS.due("run() of g" + range, x.run(), 0);
            CHECKS.due("get(RANGE)", x.get(SlopeMeter.RANGE), range);
        }
    }

    /** Each step does what the call of its kind does, and nothing else. */
    private static void runDoesNothingElse() {
        String[] texts = {"r", "r1", "r3", "z", "w1", "w9999", "l7", "l-7", "l0", "l-0", "l3000000", "g0", "g1", "g3"};
        States.Call[] calls = {x -> x.read(), x -> x.read(), x -> x.read() + x.read() + x.read(), x -> x.zero(), x -> x.pass(1),
            x -> x.pass(9999), x -> x.setLevel(7), x -> x.setLevel(-7), x -> x.setLevel(0), x -> x.setLevel(0),
            x -> x.setLevel(3000000), x -> x.set(5, 0), x -> x.set(5, 1), x -> x.set(5, 3)};
        for (int i = 0; i < texts.length; i++) {
            SlopeMeter x = States.busy();
            x.wipe();
            Checks.say(x, texts[i]);
            int before = x.count(1);
            int made = x.run();
            CHECKS.due("run() of " + texts[i], made, x.count(1) - before);
            SlopeMeter y = States.busy();
            y.wipe();
            calls[i].on(y);
            CHECKS.due("future of " + texts[i], States.future(x), States.future(y));
        }
    }

    /** "Returns the number of readings that were made": by this program, without zero conversions. */
    private static void runCountsReadings() {
        SlopeMeter x = with("r5,z");
        x.set(SlopeMeter.ZERO, 1);
        CHECKS.due("run()", x.run(), 5);
        Checks.say(x, "z,w1,l1,g0");
        CHECKS.due("run() without readings", x.run(), 0);
        CHECKS.due("count(1)", x.count(1), 5);
    }

    /** "TOO_MANY if there would be more than 10000 readings": 9999 are there, one is allowed, two are too many. */
    private static void runOfTooMany() {
        SlopeMeter x = States.beforeTheLastReading();
        Checks.say(x, "w5,r,z,r");
        int time = x.count(0);
        CHECKS.due("run() of two", x.run(), TOO_MANY);
        CHECKS.due("count(0)", x.count(0), time);
        CHECKS.due("count(1)", x.count(1), 9999);
        CHECKS.due("wipe()", x.wipe(), 8);
        Checks.say(x, "r2,");
        CHECKS.due("run() of a bad text", x.run(), BAD_TEXT);
        CHECKS.due("wipe()", x.wipe(), 3);
        Checks.say(x, "r2");
        CHECKS.due("run() of r2", x.run(), TOO_MANY);
        CHECKS.due("wipe()", x.wipe(), 2);
        Checks.say(x, "z,r,w1");
        CHECKS.due("run() of one", x.run(), 1);
        CHECKS.due("count(1) then", x.count(1), 10000);
        Checks.say(x, "l7,z,w1,g1");
        CHECKS.due("run() without readings", x.run(), 0);
        CHECKS.due("level", x.count(2), 10000007);
        Checks.say(x, "r");
        CHECKS.due("run() of one too many", x.run(), TOO_MANY);
        CHECKS.due("count(5)", x.count(5), 1);
        CHECKS.due("restore(0)", x.restore(0), 8910);
        CHECKS.due("run() of the same text", x.run(), 1);
        CHECKS.due("count(1) at last", x.count(1), 8911);
    }

    /** "NOT_POSSIBLE if the time would become greater than 1000000000": only more calls than are promised come there. */
    private static void runAtTheLastTime() {
        SlopeMeter x = States.beforeTheLastReading();
        while (x.count(0) < 999899900) {
            x.pass(100000);
        }
        x.pass(999999900 - x.count(0));
        x.setLevel(0);
        CHECKS.due("count(0)", x.count(0), 999999900);
        String[] late = {"w101", "w100,w1", "w90,z,w7", "l5,g1,z,w97", "r,w97", "w9999", "z,z,w93"};
        String[] inTime = {"w100", "w99,w1", "w90,z,w6", "l0,g0,z,w96", "w96", "w1", "z,z,w92"};
        for (int i = 0; i < late.length; i++) {
            x.save(1);
            long[] before = States.seen(x);
            Checks.say(x, late[i]);
            CHECKS.due("run() of " + late[i], x.run(), NOT_POSSIBLE);
            CHECKS.due("wipe() of " + late[i], x.wipe(), late[i].length());
            CHECKS.due("everything after " + late[i], States.seen(x), before);
            Checks.say(x, inTime[i]);
            CHECKS.due("run() of " + inTime[i], x.run(), 0);
            CHECKS.due("count(5)", x.count(5), 0);
            x.restore(1);
        }
        Checks.say(x, "r,r,w9999");
        CHECKS.due("run() of too many and too late", x.run(), TOO_MANY);
        Checks.say(x, ",");
        CHECKS.due("run() of a bad text too", x.run(), BAD_TEXT);
        x.wipe();
        Checks.say(x, "w100,z,z");
        CHECKS.due("run() with conversions behind the last time", x.run(), 0);
        CHECKS.due("count(0)", x.count(0), 1000000008);
        Checks.say(x, "r,w1");
        CHECKS.due("run() with a waiting behind the last time", x.run(), NOT_POSSIBLE);
    }
}
