import java.util.ArrayList;
import java.util.List;

/** All that can be asked of a network of 3 nodes: what is, the settings, what comes, and what is stored. */
final class Look {
    private static final int NODES = 3;
    private static final int[] SETTINGS = {0, 1, 2, 3, 6, 7, 8, 9};

    private Look() {
    }

    /** Some 450 calls; the object is spent by them, as the ticks that come are made in it. */
    static List<Integer> spend(IntervalRouting x) {
        List<Integer> seen = now(x);
        for (int what : SETTINGS) {
            int value = x.set(what, 1);
            boolean isLarge = value < 0;
            value = isLarge ? x.set(what, 100) : value;
            x.set(what, value);
            seen.add(value);
        }
        seen.add(x.settling());
        x.run(4);
        seen.addAll(now(x));
        seen.add(x.recall());
        seen.addAll(now(x));
        return seen;
    }

    /** What is: the counters, the links, the tables and the journal. */
    static List<Integer> now(IntervalRouting x) {
        List<Integer> seen = new ArrayList<>();
        seen.add(x.time());
        seen.add(x.sent());
        for (int a = 0; a < NODES; a++) {
            for (int b = 0; b < NODES; b++) {
                if (a < b) {
                    link(x, a, b, seen);
                }
                if (a != b) {
                    entries(x, a, b, seen);
                }
            }
        }
        int size = x.journalSize();
        seen.add(size);
        for (int index = 0; index < size; index++) {
            for (int what = 0; what < 4; what++) {
                seen.add(x.journal(index, what));
            }
        }
        return seen;
    }

    private static void link(IntervalRouting x, int a, int b, List<Integer> seen) {
        for (int what = 0; what < 4; what++) {
            seen.add(x.link(a, b, what));
        }
    }

    private static void entries(IntervalRouting x, int node, int target, List<Integer> seen) {
        for (int sender = 0; sender < NODES; sender++) {
            int lower = sender == node ? IntervalRouting.NOT_FOUND : x.entry(node, target, sender, 0);
            seen.add(lower);
            for (int what = 1; what < 5 && lower >= 0; what++) {
                seen.add(x.entry(node, target, sender, what));
            }
        }
    }
}
