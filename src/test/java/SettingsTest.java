/** The part Settings and promise 8: the range of each setting, and what its least and its greatest value do. */
public final class SettingsTest {
    /** What, least, most, initially. */
    static final int[][] SETTINGS = {{0, 1, 20, 4}, {1, 1, 100, 13}, {2, 0, 2, 0}, {3, 0, 2, 1},
        {6, 100, 30000, 4000}, {7, 0, 1, 0}, {8, 1, 20, 4}, {9, 1, 50, 8}};
    private static final String[] WORDS = {"0 period 1 to 20, 4", "1 lifetime 1 to 100, 13", "2 rule 0 to 2, 0",
        "3 horizon 0 to 2, 1", "6 infinity 100 to 30000, 4000", "7 trigger 0 or 1, 0", "8 growth 1 to 20, 4",
        "9 hold 1 to 50, 8"};
    private static final int MIN = Nets.MIN;
    private static final int MAX = Nets.MAX;

    public static void main(String[] args) {
        for (int i = 0; i < SETTINGS.length; i++) {
            range(WORDS[i], SETTINGS[i]);
        }
        noSuchSetting();
        setReturnsThePrevious();
        setThatIsRefused();
        settingsAreApart();
        shortestPeriod();
        longestPeriod();
        shortestLifetime();
        longestLifetime();
        leastInfinity();
        greatestInfinity();
        leastGrowth();
        greatestGrowth();
        shortestHold();
        longestHold();
        Check.end();
    }

    private static void range(String words, int[] setting) {
        Check.sentence("Settings", words);
        int what = setting[0];
        IntervalRouting x = new IntervalRouting();
        for (int value : new int[] {setting[1] - 1, setting[2] + 1, setting[2] + 2, MIN, MAX}) {
            Check.due("set(" + what + ", " + value + "), out of range", x.set(what, value), -1);
        }
        Check.due("set(" + what + ", least), initially", x.set(what, setting[1]), setting[3]);
        Check.due("set(" + what + ", too little)", x.set(what, setting[1] - 1), -1);
        Check.due("set(" + what + ", most), at the least", x.set(what, setting[2]), setting[1]);
        Check.due("set(" + what + ", too much)", x.set(what, setting[2] + 1), -1);
        Check.due("set(" + what + ", first), at the most", x.set(what, setting[3]), setting[2]);
    }

    private static void noSuchSetting() {
        Check.sentence("Promise 8", "`what`: 0 to 3, or 6 to 9");
        IntervalRouting x = new IntervalRouting();
        for (int what : new int[] {-1, 4, 5, 10, 11, MIN, MAX}) {
            for (int value : new int[] {0, 1, 2, 20, 100, -1, MIN, MAX}) {
                Check.due("set(" + what + ", " + value + ")", x.set(what, value), -1);
            }
        }
        for (int[] setting : SETTINGS) {
            Check.due("set(" + setting[0] + ", ..)", x.set(setting[0], setting[1]), setting[3]);
        }
    }

    private static void setReturnsThePrevious() {
        Check.sentence("Promise 8", "Returns the previous value");
        IntervalRouting x = new IntervalRouting();
        int[] values = {20, 1, 7, 7, 4};
        int previous = 4;
        for (int value : values) {
            Check.due("set(0, " + value + ")", x.set(0, value), previous);
            previous = value;
        }
    }

    private static void setThatIsRefused() {
        Check.sentence("Promise 8", "INVALID_ARGUMENT if an argument is out of range");
        IntervalRouting x = Nets.row(2, 1, 2);
        Check.due("set(0, 0)", x.set(0, 0), -1);
        Check.due("set(0, 21)", x.set(0, 21), -1);
        Check.due("set(1, 101)", x.set(1, 101), -1);
        Check.due("run(1)", x.run(1), 1);
        Check.due("sent(), the period is still 1", x.sent(), 2);
        Check.due("entry(0, 1, 1, 2), the lifetime is still 13", x.entry(0, 1, 1, 2), 14);
    }

    private static void settingsAreApart() {
        Check.sentence("Promise 8", "Sets a setting.");
        IntervalRouting x = new IntervalRouting();
        for (int[] setting : SETTINGS) {
            x.set(setting[0], setting[2]);
        }
        for (int[] setting : SETTINGS) {
            Check.due("set(" + setting[0] + ", least)", x.set(setting[0], setting[1]), setting[2]);
        }
    }

    private static void shortestPeriod() {
        Check.sentence("Settings", "0 period 1 to 20, 4");
        IntervalRouting x = Nets.row(8, 1, 1);
        x.set(3, 0);
        for (int tick = 1; tick <= 5; tick++) {
            x.run(1);
            Check.due("sent() at " + tick + ", all send in each tick", x.sent(), 98 * tick);
        }
    }

    private static void longestPeriod() {
        Check.sentence("Settings", "0 period 1 to 20, 4");
        IntervalRouting x = Nets.row(8, 1, 1);
        x.set(3, 0);
        x.set(0, 20);
        // Node 7 sends at 13, node 6 at 14, .., node 0 at 20; then not before 33.
        int[][] due = {{12, 0}, {13, 7}, {14, 21}, {19, 91}, {20, 98}, {32, 98}, {33, 105}, {34, 119}};
        for (int[] d : due) {
            x.run(d[0] - x.time());
            Check.due("sent() at " + d[0], x.sent(), d[1]);
        }
    }

    /** Node 1 has sent to node 0 at tick 19, and is cut off; the tick is then the one given. */
    private static IntervalRouting heardAt19(int lifetime, int tick) {
        IntervalRouting x = Nets.row(2, 1, 2);
        x.set(0, 20);
        x.set(1, lifetime);
        x.run(19);
        x.setUp(0, 1, 0);
        x.run(tick - 19);
        x.setUp(0, 1, 1);
        return x;
    }

    private static void shortestLifetime() {
        Check.sentence("Settings", "1 lifetime 1 to 100, 13");
        Check.due("entry(0, 1, 1, 2)", heardAt19(1, 20).entry(0, 1, 1, 2), 20);
        Check.due("entry(0, 1, 1, 5) at 20", heardAt19(1, 20).entry(0, 1, 1, 5), 1);
        Check.due("entry(0, 1, 1, 5) at 21", heardAt19(1, 21).entry(0, 1, 1, 5), 0);
    }

    private static void longestLifetime() {
        Check.sentence("Settings", "1 lifetime 1 to 100, 13");
        Check.due("entry(0, 1, 1, 2)", heardAt19(100, 20).entry(0, 1, 1, 2), 119);
        Check.due("entry(0, 1, 1, 5) at 119", heardAt19(100, 119).entry(0, 1, 1, 5), 1);
        Check.due("entry(0, 1, 1, 5) at 120", heardAt19(100, 120).entry(0, 1, 1, 5), 0);
    }

    private static void leastInfinity() {
        Check.sentence("Settings", "6 infinity 100 to 30000, 4000");
        int[][] due = {{98, 98, 1}, {99, 99, 1}, {100, 100, 0}, {101, 100, 0}, {500, 100, 0}};
        for (int[] d : due) {
            IntervalRouting x = Nets.row(2, 1, d[0]);
            x.set(6, 100);
            x.run(1);
            Check.due("entry(0, 1, 1, 1) of a link up to " + d[0], x.entry(0, 1, 1, 1), d[1]);
            Check.due("entry(0, 1, 1, 5) of a link up to " + d[0], x.entry(0, 1, 1, 5), d[2]);
        }
    }

    private static void greatestInfinity() {
        Check.sentence("Settings", "6 infinity 100 to 30000, 4000");
        IntervalRouting x = Nets.row(8, 500, 500);
        x.set(6, 30000);
        x.run(1);
        Check.due("entry(0, 2, 1, 0), unreachable", x.entry(0, 2, 1, 0), 30000);
        Check.due("entry(0, 2, 1, 1), unreachable", x.entry(0, 2, 1, 1), 30000);
        Check.due("entry(0, 2, 1, 5), unreachable", x.entry(0, 2, 1, 5), 0);
        x.run(6);
        Check.due("distance(0, 7, 1)", x.distance(0, 7, 1), 3500);
    }

    /** How often a bound has grown, of two nodes whose link is wider in each tick after the first one. */
    private static IntervalRouting grown(int times, int growth, int hold) {
        IntervalRouting x = Nets.row(2, 1, 1);
        x.set(8, growth);
        x.set(9, hold);
        x.run(1);
        for (int i = 1; i <= times; i++) {
            Nets.relink(x, 1, 1 + i);
            x.run(1);
        }
        return x;
    }

    private static void held(IntervalRouting x, int growth, int upTo) {
        Check.due("entry(0, 1, 1, 3) at " + x.time(), x.entry(0, 1, 1, 3), growth);
        Check.due("entry(0, 1, 1, 4) at " + x.time(), x.entry(0, 1, 1, 4), upTo);
        Check.due("entry(0, 1, 1, 5) at " + x.time(), x.entry(0, 1, 1, 5), upTo >= x.time() ? 0 : 1);
    }

    private static void leastGrowth() {
        Check.sentence("Settings", "8 growth 1 to 20, 4");
        held(grown(0, 1, 8), 0, 0);
        held(grown(1, 1, 8), 0, 10);
        held(grown(2, 1, 8), 0, 11);
    }

    private static void greatestGrowth() {
        Check.sentence("Settings", "8 growth 1 to 20, 4");
        held(grown(19, 20, 8), 19, 0);
        held(grown(20, 20, 8), 0, 29);
        held(grown(21, 20, 8), 1, 29);
    }

    private static void shortestHold() {
        Check.sentence("Settings", "9 hold 1 to 50, 8");
        IntervalRouting x = grown(1, 1, 1);
        held(x, 0, 3);
        x.run(1);
        held(x, 0, 3);
        x.run(1);
        held(x, 0, 3);
        Check.due("entry(0, 1, 1, 5) at 4", x.entry(0, 1, 1, 5), 1);
    }

    private static void longestHold() {
        Check.sentence("Settings", "9 hold 1 to 50, 8");
        IntervalRouting x = grown(1, 1, 50);
        held(x, 0, 52);
        x.run(50);
        Check.due("entry(0, 1, 1, 5) at 52", x.entry(0, 1, 1, 5), 0);
        Check.due("entries(0, 1, 3) at 52", x.entries(0, 1, 3), 1);
        x.run(1);
        Check.due("entry(0, 1, 1, 5) at 53", x.entry(0, 1, 1, 5), 1);
        Check.due("entries(0, 1, 3) at 53", x.entries(0, 1, 3), 0);
    }
}
