/** The boundary cases of promises 24 to 26. */
public final class SavingEdgesTest {
    private static final Checks CHECKS = new Checks("SavingEdgesTest");
    private static final int BAD = SlopeMeter.BAD_VALUE;
    private static final int NOT_POSSIBLE = SlopeMeter.NOT_POSSIBLE;
    private static final int NONE = SlopeMeter.NONE;
    private static final int[] NO_SLOTS = {-1, -2, 2, 3, Integer.MIN_VALUE, Integer.MAX_VALUE};

    public static void main(String[] args) {
        countWhat();
        countOfTheEnds();
        countUntilZero();
        slotNumbers();
        restoreWithoutASave();
        saveBeforeAnything();
        saveOverwrites();
        restoreKeepsTheSlot();
        restoreIsNoSave();
        padIsNotSaved();
        slotsAreNotSaved();
        everythingElseIsSaved();
        emptyAndFullLogs();
        zeroDueIsSaved();
        CHECKS.finish();
    }

    /** "BAD_VALUE if what is not 0 to 5". */
    private static void countWhat() {
        for (SlopeMeter x : new SlopeMeter[] {new SlopeMeter(), States.busy()}) {
            for (int refused : new int[] {-1, -6, 6, 7, Integer.MIN_VALUE, Integer.MAX_VALUE}) {
                CHECKS.due("count(" + refused + ")", x.count(refused), BAD);
            }
        }
        SlopeMeter y = States.meter(4, -5);
        y.setOffset(16384, 0);
        y.set(SlopeMeter.ZERO, 2);
        y.read();
        Checks.say(y, "abc");
        // a zero conversion of 4 + 1 + 15 ticks and a reading of 65516, less than a sixteenth, of 4 + 1 + 16
        int[] want = {41, 1, 9999995, 10000001, 1, 3};
        for (int what = 0; what < 6; what++) {
            CHECKS.due("count(" + what + ")", y.count(what), want[what]);
        }
    }

    /** The level plus 10000000, and the zero plus 10000000, at their ends. */
    private static void countOfTheEnds() {
        SlopeMeter x = States.meter(400, 0);
        for (int i = 0; i < 6; i++) {
            x.pass(100000);
        }
        for (int sign = -1; sign <= 1; sign += 2) {
            x.setLevel(sign * 3000000);
            CHECKS.due("count(2)", x.count(2), 10000000 + sign * 3000000);
            x.setOffset(sign * 100000, sign * 1000);
            CHECKS.due("zero()", x.zero(), 10000000 + sign * 3051);
            CHECKS.due("count(3)", x.count(3), 10000000 + sign * 3051);
        }
    }

    /** "0 if the next one has one; NONE if they are never due". */
    private static void countUntilZero() {
        SlopeMeter x = States.meter(4, 0);
        CHECKS.due("count(4), never", x.count(4), NONE);
        x.set(SlopeMeter.ZERO, 1);
        for (int i = 0; i < 3; i++) {
            CHECKS.due("count(4) with ZERO 1", x.count(4), 0);
            x.read();
        }
        x.set(SlopeMeter.ZERO, 2);
        for (int i = 0; i < 4; i++) {
            CHECKS.due("count(4) with ZERO 2", x.count(4), i % 2);
            x.read();
        }
        x.set(SlopeMeter.ZERO, 0);
        CHECKS.due("count(4), never again", x.count(4), NONE);
    }

    /** "slot: 0 or 1". */
    private static void slotNumbers() {
        SlopeMeter x = States.busy();
        for (int no : NO_SLOTS) {
            CHECKS.due("save(" + no + ")", x.save(no), BAD);
            CHECKS.due("restore(" + no + ")", x.restore(no), BAD);
        }
        CHECKS.due("nothing has changed", States.future(x), States.future(States.busy()));
    }

    /** "NOT_POSSIBLE if nothing was saved in it", and BAD_VALUE before it. */
    private static void restoreWithoutASave() {
        for (int saved = 0; saved < 2; saved++) {
            SlopeMeter x = new SlopeMeter();
            for (int slot = 0; slot < 2; slot++) {
                CHECKS.due("restore(" + slot + ") before", x.restore(slot), NOT_POSSIBLE);
            }
            for (int no : NO_SLOTS) {
                CHECKS.due("save(" + no + ") before", x.save(no), BAD);
                CHECKS.due("restore(" + no + ") before", x.restore(no), BAD);
            }
            x.read();
            x.save(saved);
            x.read();
            CHECKS.due("restore() of the other one", x.restore(1 - saved), NOT_POSSIBLE);
            CHECKS.due("count(1) kept", x.count(1), 2);
            CHECKS.due("restore() of the one", x.restore(saved), 1);
            CHECKS.due("count(1) as saved", x.count(1), 1);
            CHECKS.due("restore() of the other one then", x.restore(1 - saved), NOT_POSSIBLE);
        }
    }

    /** What a new meter saves is something, too. */
    private static void saveBeforeAnything() {
        SlopeMeter x = new SlopeMeter();
        CHECKS.due("save(1)", x.save(1), 0);
        SlopeMeter other = States.busy();
        x.setLevel(5);
        x.setHum(5, 8);
        x.setOffset(5, 5);
        int[] values = {4, 7, 1, 3, 1, 2};
        for (int setting = 0; setting < 6; setting++) {
            x.set(setting, values[setting]);
        }
        Checks.say(x, "r99,z");
        x.run();
        CHECKS.due("restore(1)", x.restore(1), 0);
        CHECKS.due("as new", States.seen(x), States.seen(new SlopeMeter()));
        CHECKS.due("hum as new", x.setHum(0, 4), 100);
        CHECKS.due("a busy one beside", other.count(1), 48);
    }

    /** "overwrites what was saved there". */
    private static void saveOverwrites() {
        for (int slot = 0; slot < 2; slot++) {
            SlopeMeter x = States.busy();
            x.save(slot);
            SlopeMeter y = States.busy();
            y.setLevel(99);
            y.read();
            y.save(slot);
            y.restore(slot);
            CHECKS.due("level of the later one", y.count(2), 10000099);
            y.setLevel(-1);
            CHECKS.due("save() of a third", y.save(slot), y.count(1));
            y.setLevel(-2);
            CHECKS.due("restore() of the third", y.restore(slot), y.count(1));
            CHECKS.due("level of the third", y.count(2), 9999999);
            CHECKS.due("the other slot", y.restore(1 - slot), slot == 0 ? 46 : 0);
        }
    }

    /** "Restores what was saved last in a slot, which keeps it." */
    private static void restoreKeepsTheSlot() {
        SlopeMeter x = States.meter(4, 16384);
        x.read();
        x.save(0);
        for (int i = 0; i < 3; i++) {
            x.setLevel(32768);
            x.set(SlopeMeter.WINDOW, 5);
            Checks.say(x, "r50");
            x.run();
            x.zero();
            CHECKS.due("restore(0) number " + i, x.restore(0), 1);
            CHECKS.due("level", x.count(2), 10016384);
            CHECKS.due("window", x.get(SlopeMeter.WINDOW), 4);
            CHECKS.due("log(0, 0)", x.log(0, 0), 16384);
            CHECKS.due("log(1, 0)", x.log(1, 0), Checks.gone(NONE));
            CHECKS.due("time", x.count(0), 20);
        }
    }

    private static void restoreIsNoSave() {
        SlopeMeter x = States.meter(4, 1);
        x.save(0);
        x.setLevel(2);
        x.save(1);
        x.setLevel(3);
        x.restore(0);
        x.setLevel(4);
        CHECKS.due("restore(1)", x.restore(1), 0);
        CHECKS.due("level of slot 1", x.count(2), 10000002);
        CHECKS.due("restore(0)", x.restore(0), 0);
        CHECKS.due("level of slot 0", x.count(2), 10000001);
    }

    /** "everything except the pad": it stays as it is, empty or full. */
    private static void padIsNotSaved() {
        SlopeMeter x = States.meter(4, 0);
        Checks.say(x, "r9,");
        x.save(0);
        x.wipe();
        x.restore(0);
        CHECKS.due("an empty pad stays", x.count(5), 0);
        CHECKS.due("its fault", x.fault(), 0);
        x.save(1);
        Checks.say(x, "r,r,r,r,r,r,r,r,r,r,r,r,r,r,r,r,r,r,r,r,r,r,r,r,r,r,r,r,r,z,");
        x.restore(1);
        CHECKS.due("a full pad stays", x.count(5), 60);
        CHECKS.due("its fault", x.fault(), 60);
        x.wipe();
        Checks.say(x, "r3");
        x.restore(0);
        CHECKS.due("run()", x.run(), 3);
    }

    private static void slotsAreNotSaved() {
        SlopeMeter x = States.meter(4, 1);
        x.save(0);
        x.setLevel(2);
        x.save(1);
        x.restore(0);
        CHECKS.due("slot 1 of after the save is kept", x.restore(1), 0);
        CHECKS.due("level", x.count(2), 10000002);
    }

    /** Each of the values that a meter has, changed alone behind a save. */
    private static void everythingElseIsSaved() {
        States.Call[] changes = {x -> x.setLevel(-3), x -> x.setHum(4999, 36), x -> x.setHum(5000, 40),
            x -> x.setOffset(-701, 30), x -> x.setOffset(-700, 31), x -> x.set(0, 13), x -> x.set(1, 4), x -> x.set(2, 0),
            x -> x.set(3, 7), x -> x.set(3, 8), x -> x.set(4, 0), x -> x.set(5, 3), x -> x.read(), x -> x.zero(),
            x -> x.pass(1)};
        for (int slot = 0; slot < 2; slot++) {
            for (int i = 0; i < changes.length; i++) {
                SlopeMeter x = States.busy();
                SlopeMeter y = States.busy();
                x.save(slot);
                y.save(slot);
                changes[i].on(x);
                CHECKS.due("restore() behind change " + i, x.restore(slot), y.count(1));
                CHECKS.due("future behind change " + i, States.future(x), States.future(y));
            }
        }
    }

    /** The log is saved as it was: empty, full, or with a reading less. */
    private static void emptyAndFullLogs() {
        for (int readings : new int[] {0, 1, 39, 40, 41}) {
            SlopeMeter x = States.meter(4, 16384);
            for (int i = 0; i < readings; i++) {
                x.setLevel(i * 16384);
                x.read();
            }
            CHECKS.due("save(0)", x.save(0), readings);
            x.setLevel(-16384);
            Checks.say(x, "r45");
            x.run();
            CHECKS.due("restore(0)", x.restore(0), readings);
            int first = Math.max(0, readings - 40);
            CHECKS.due("number", x.statistic(0, 0), readings - first);
            for (int i = first; i < readings; i++) {
                CHECKS.due("value " + i + " of " + readings, x.log(i, 0), i * 16384);
            }
            CHECKS.due("before the first", x.log(first - 1, 0), Checks.gone(NONE));
            CHECKS.due("behind the last", x.log(readings, 0), Checks.gone(NONE));
        }
    }

    private static void zeroDueIsSaved() {
        for (int readings = 0; readings < 6; readings++) {
            SlopeMeter x = States.meter(4, 0);
            x.set(SlopeMeter.ZERO, 3);
            for (int i = 0; i < readings; i++) {
                x.read();
            }
            int due = x.count(4);
            x.save(1);
            x.read();
            x.read();
            x.set(SlopeMeter.ZERO, 10);
            x.restore(1);
            CHECKS.due("count(4) after " + readings, x.count(4), due);
            CHECKS.due("count(4) by number", due, (3 - readings % 3) % 3);
            CHECKS.due("get(ZERO)", x.get(SlopeMeter.ZERO), 3);
        }
    }
}
