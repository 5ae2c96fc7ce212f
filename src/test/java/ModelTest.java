/** Random runs of calls, each answered by IntervalRouting as by the Model; always the same runs. */
public final class ModelTest {
    private static final int RUNS = 160;
    private static final int CALLS = 120;
    private static final int[] STARTS = {4, 13, 0, 1, 0, 0, 4000, 0, 4, 8};
    private static final int[] LEAST = {1, 1, 0, 0, 0, 0, 100, 0, 1, 1};
    private static final int[] MOST = {20, 100, 2, 2, 0, 0, 30000, 1, 20, 50};

    private final IntervalRouting x = new IntervalRouting();
    private final Model m = new Model();
    private final int run;
    private long seed;
    private int nodes = 4;
    private int most;

    private ModelTest(int run) {
        this.run = run;
        seed = 77 * run + 5;
    }

    public static void main(String[] args) {
        for (int run = 0; run < RUNS; run++) {
            new ModelTest(run).go();
        }
        Check.end();
    }

    private int below(int bound) {
        seed = seed * 6364136223846793005L + 1442695040888963407L;
        return (int) ((seed >>> 33) % bound);
    }

    /** Mostly a node's number, at times none. */
    private int node() {
        return below(40) == 0 ? below(2) * 10 - 1 : below(nodes);
    }

    private void due(String call, int got, int want) {
        Check.due("run " + run + ": " + call, got, want);
    }

    private void go() {
        nodes = 2 + below(7);
        most = new int[] {3, 20, 500}[below(3)];
        due("reset(" + nodes + ")", x.reset(nodes), m.reset(nodes));
        for (int what = 0; what < 10; what++) {
            if (below(3) == 0) {
                setting(what);
            }
        }
        for (int i = 0; i < nodes + below(nodes); i++) {
            addLink();
        }
        for (int i = 0; i < CALLS; i++) {
            change();
            if (below(2) == 0) {
                question();
            }
            if (below(12) == 0) {
                everything();
            }
        }
        everything();
    }

    private void addLink() {
        int a = node();
        int b = node();
        int lower = 1 + below(most);
        int upper = lower + below(most) * below(2);
        due("addLink(" + a + ", " + b + ", " + lower + ", " + upper + ")", x.addLink(a, b, lower, upper),
            m.addLink(a, b, lower, upper));
    }

    private void setting(int what) {
        int span = MOST[what] - LEAST[what] + 1;
        int value = LEAST[what] + below(below(2) == 0 ? span : Math.min(span, 5));
        if (below(10) == 0) {
            value = STARTS[what];
        }
        if (what == 6 && below(2) == 0) {
            value = 100 + below(40);
        }
        due("set(" + what + ", " + value + ")", x.set(what, value), m.set(what, value));
    }

    private void change() {
        int a = node();
        int b = node();
        switch (below(16)) {
            case 0:
                addLink();
                break;
            case 1:
                due("removeLink(" + a + ", " + b + ")", x.removeLink(a, b), m.removeLink(a, b));
                break;
            case 2:
                int cost = below(2 * most + 2);
                due("setCost(" + a + ", " + b + ", " + cost + ")", x.setCost(a, b, cost), m.setCost(a, b, cost));
                break;
            case 3:
            case 4:
                int up = below(20) == 0 ? 2 : below(3) == 0 ? 0 : 1;
                due("setUp(" + a + ", " + b + ", " + up + ")", x.setUp(a, b, up), m.setUp(a, b, up));
                break;
            case 5:
                setting(below(10));
                break;
            case 6:
                due("store()", x.store(), m.store());
                break;
            case 7:
                if (below(2) == 0) {
                    due("recall()", x.recall(), m.recall());
                }
                break;
            case 8:
                // A link with other bounds between the same nodes: entries grow and fall.
                due("removeLink(" + a + ", " + b + ")", x.removeLink(a, b), m.removeLink(a, b));
                int bound = 1 + below(most);
                due("addLink(" + a + ", " + b + ", " + bound + ", 500)", x.addLink(a, b, bound, 500),
                    m.addLink(a, b, bound, 500));
                break;
            case 9:
                int many = below(31) - 1;
                due("run(" + many + ")", x.run(many), m.run(many));
                break;
            default:
                int ticks = 1 + below(4);
                due("run(" + ticks + ")", x.run(ticks), m.run(ticks));
                break;
        }
    }

    private void question() {
        int a = node();
        int b = node();
        int what = below(9) - 1;
        switch (below(10)) {
            case 0:
                due("link(" + a + ", " + b + ", " + what + ")", x.link(a, b, what), m.link(a, b, what));
                break;
            case 1:
                int c = node();
                due("entry(" + a + ", " + b + ", " + c + ", " + what + ")", x.entry(a, b, c, what),
                    m.entry(a, b, c, what));
                break;
            case 2:
                due("distance(" + a + ", " + b + ", " + what + ")", x.distance(a, b, what), m.distance(a, b, what));
                break;
            case 3:
                due("entries(" + a + ", " + b + ", " + what + ")", x.entries(a, b, what), m.entries(a, b, what));
                break;
            case 4:
                int index = below(20) - 1;
                due("journal(" + index + ", " + what + ")", x.journal(index, what), m.journal(index, what));
                break;
            case 5:
                due("choice(" + a + ", " + b + ")", x.choice(a, b), m.choice(a, b));
                break;
            case 6:
                due("follow(" + a + ", " + b + ")", x.follow(a, b), m.follow(a, b));
                break;
            case 7:
                due("trueDistance(" + a + ", " + b + ")", x.trueDistance(a, b), m.trueDistance(a, b));
                break;
            case 8:
                due("loss(" + a + ", " + b + ")", x.loss(a, b), m.loss(a, b));
                break;
            default:
                forecast(a, b);
                break;
        }
    }

    private void forecast(int a, int b) {
        if (below(4) == 0) {
            due("settling()", x.settling(), m.settling());
        } else {
            due("recovery(" + a + ", " + b + ")", x.recovery(a, b), m.recovery(a, b));
        }
    }

    private void everything() {
        due("time()", x.time(), m.time());
        due("sent()", x.sent(), m.sent());
        due("meanWidthBits()", x.meanWidthBits(), m.meanWidthBits());
        due("wrongPairs()", x.wrongPairs(), m.wrongPairs());
        due("loops()", x.loops(), m.loops());
        due("journalSize()", x.journalSize(), m.journalSize());
        for (int index = 0; index < 17; index++) {
            for (int what = 0; what < 4; what++) {
                due("journal(" + index + ", " + what + ")", x.journal(index, what), m.journal(index, what));
            }
        }
        for (int a = 0; a < nodes; a++) {
            for (int b = 0; b < nodes; b++) {
                pair(a, b);
            }
        }
    }

    private void pair(int a, int b) {
        String pair = "(" + a + ", " + b;
        due("choice" + pair + ")", x.choice(a, b), m.choice(a, b));
        due("follow" + pair + ")", x.follow(a, b), m.follow(a, b));
        due("trueDistance" + pair + ")", x.trueDistance(a, b), m.trueDistance(a, b));
        due("loss" + pair + ")", x.loss(a, b), m.loss(a, b));
        for (int what = 0; what < 4; what++) {
            due("entries" + pair + ", " + what + ")", x.entries(a, b, what), m.entries(a, b, what));
            due("link" + pair + ", " + what + ")", x.link(a, b, what), m.link(a, b, what));
            due("distance" + pair + ", " + what + ")", x.distance(a, b, what), m.distance(a, b, what));
        }
        for (int sender = 0; sender < nodes; sender++) {
            for (int what = 0; what < 7; what++) {
                due("entry" + pair + ", " + sender + ", " + what + ")", x.entry(a, b, sender, what),
                    m.entry(a, b, sender, what));
            }
        }
    }
}
