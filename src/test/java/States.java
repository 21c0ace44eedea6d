import java.util.ArrayList;
import java.util.List;

/** Meters in states of their own, and everything that can be learned of a meter. */
final class States {
    private States() {
    }

    /** A call on a meter; an int answer counts as a long. */
    interface Call {
        long on(SlopeMeter meter);
    }

    static SlopeMeter meter(int window, int level) {
        SlopeMeter x = new SlopeMeter();
        x.set(SlopeMeter.WINDOW, window);
        x.setLevel(level);
        return x;
    }

    /** No setting as it was at first, a full log that has lost readings, both slots saved, a text that goes on. */
    static SlopeMeter busy() {
        SlopeMeter x = meter(12, 16384);
        x.setHum(5000, 36);
        x.setOffset(-700, 30);
        x.set(SlopeMeter.SLOT, 3);
        x.set(SlopeMeter.ZERO, 7);
        x.zero();
        x.save(0);
        x.set(SlopeMeter.MODE, SlopeMeter.MULTI);
        Checks.say(x, "r44,w13,r2");
        x.run();
        x.set(SlopeMeter.AUTO, 1);
        x.set(SlopeMeter.RANGE, 2);
        x.save(1);
        x.setLevel(-2345);
        x.read();
        x.read();
        Checks.say(x, "r2,w7,l-5,g1,");
        return x;
    }

    /** As busy, but with a full pad, whose text is correct. */
    static SlopeMeter busyWithAFullPad() {
        SlopeMeter x = busy();
        Checks.say(x, "r3,z,w9999,l3000000,r,z,l-3000000,r10,z,w1,z,g2");
        return x;
    }

    /** A meter with 9999 readings after 408 calls of those that are promised; its slot 0 has 8910 of them. */
    static SlopeMeter beforeTheLastReading() {
        SlopeMeter x = meter(4, 16384);
        String most = "r99,r99,r99,r99,r99,r99,r99,r99,r99,r99,r99,r99,r99,r99,r99";
        for (int i = 0; i < 6; i++) {
            Checks.say(x, most);
            x.run();
        }
        x.save(0);
        Checks.say(x, "r99,r99,r99,r99,r99,r99,r99,r99,r99,r99,r99");
        x.run();
        return x;
    }

    /** What a meter tells without a change: about 100 calls. */
    static long[] seen(SlopeMeter x) {
        List<Long> all = new ArrayList<>();
        see(x, all);
        return rowOf(all);
    }

    /** What a meter tells, and then what its pad and its slots turn out to hold: about 400 calls, with changes. */
    static long[] future(SlopeMeter x) {
        List<Long> all = new ArrayList<>();
        see(x, all);
        all.add((long) x.say('z'));
        all.add((long) x.run());
        see(x, all);
        for (int slot = 0; slot < 2; slot++) {
            all.add((long) x.restore(slot));
            all.add(x.read());
            see(x, all);
        }
        all.add((long) x.setHum(0, 4));
        return rowOf(all);
    }

    private static void see(SlopeMeter x, List<Long> all) {
        for (int what = 0; what < 6; what++) {
            all.add((long) x.count(what));
            all.add((long) x.get(what));
        }
        for (int what = 0; what < 7; what++) {
            all.add(x.latest(what));
        }
        int readings = x.count(1);
        for (int back = 0; back < 42; back++) {
            all.add(x.log(readings - back, back % 7));
        }
        for (int what = 0; what < 5; what++) {
            all.add(x.statistic(0, what));
            all.add(x.statistic(readings - 1, what));
        }
        for (int after : new int[] {0, 1, 26, 33333}) {
            for (int what = 0; what < 3; what++) {
                all.add(x.probe(after, what));
            }
        }
        all.add((long) x.fault());
        all.add(x.wouldRead(4321));
        all.add((long) x.settle());
    }

    private static long[] rowOf(List<Long> all) {
        long[] row = new long[all.size()];
        for (int i = 0; i < row.length; i++) {
            row[i] = all.get(i);
        }
        return row;
    }
}
