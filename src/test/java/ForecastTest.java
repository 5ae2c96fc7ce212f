/** Promises 23 to 25: settling, loss and recovery. */
public final class ForecastTest {
    public static void main(String[] args) {
        settles();
        settlesAfterAChange();
        neverSettles();
        quietFor40Ticks();
        settlesAtTheLimit();
        losses();
        wrongArguments();
        recovers();
        recoversAtTheLimit();
        neverRecovers();
        changesNothing();
        Check.end();
    }

    private static IntervalRouting row(int nodes, int cost) {
        IntervalRouting x = new IntervalRouting();
        x.reset(nodes);
        for (int i = 0; i + 1 < nodes; i++) {
            x.addLink(i, i + 1, cost, cost);
        }
        return x;
    }

    private static void settles() {
        IntervalRouting x = row(2, 5);
        // Node 1 sends at tick 3, node 0 at tick 4.
        Check.due("settling() at 0", x.settling(), 4);
        x.run(1);
        Check.due("settling() at 1", x.settling(), 3);
        x.run(2);
        Check.due("settling() at 3", x.settling(), 1);
        x.run(1);
        Check.due("settling() at 4", x.settling(), 0);
        Check.due("time()", x.time(), 4);
        Check.due("settling() without links", new IntervalRouting().settling(), 0);
    }

    private static void settlesAfterAChange() {
        IntervalRouting x = row(2, 5);
        x.run(10);
        x.setUp(0, 1, 0);
        Check.due("settling(), the next tick notes the change", x.settling(), 1);
        x.setUp(0, 1, 1);
        Check.due("settling()", x.settling(), 0);
    }

    private static void neverSettles() {
        IntervalRouting x = row(2, 5);
        x.set(0, 20);
        x.set(1, 1);
        Check.due("settling()", x.settling(), -4);
        x.set(1, 100);
        Check.due("settling()", x.settling(), 20);
    }

    private static void quietFor40Ticks() {
        // Node 0 has no choice from 39 on and node 1 from 40 on; after the hold they choose anew, one tick apart.
        int[][] due = {{38, 39}, {39, 40}, {40, 41}, {41, 0}};
        for (int[] d : due) {
            IntervalRouting x = row(2, 5);
            x.set(0, 20);
            x.set(1, 100);
            x.set(8, 1);
            x.run(20);
            x.removeLink(0, 1);
            x.addLink(0, 1, 6, 6);
            x.set(9, d[0]);
            x.run(20);
            Check.due("entry(1, 0, 0, 4)", x.entry(1, 0, 0, 4), 40 + d[0]);
            Check.due("settling() at 40 with a hold of " + d[0], x.settling(), d[1]);
        }
    }

    private static void settlesAtTheLimit() {
        // A ring of three counts up for the node that is lost, and its entries are held by turns, until tick 478.
        IntervalRouting x = new IntervalRouting();
        x.set(0, 10);
        x.set(3, 0);
        x.set(6, 1248);
        x.addLink(0, 1, 1, 18);
        x.addLink(0, 2, 22, 22);
        x.addLink(1, 2, 25, 25);
        x.addLink(2, 3, 19, 19);
        x.run(100);
        x.setUp(2, 3, 0);
        x.run(177);
        Check.due("settling() at 277", x.settling(), -4);
        x.run(1);
        Check.due("settling() at 278", x.settling(), 200);
        x.run(1);
        Check.due("settling() at 279", x.settling(), 199);
        int last = 0;
        for (int tick = 280; tick <= 600; tick++) {
            x.run(1);
            if (x.journal(0, 0) == tick) {
                Check.holds("no 40 quiet ticks before " + tick, last == 0 || tick - last <= 40);
                last = tick;
            }
        }
        Check.due("the tick of the last change", last, 478);
    }

    private static void losses() {
        IntervalRouting x = row(4, 5);
        Check.due("loss(0, 1)", x.loss(0, 1), 6);
        Check.due("loss(2, 1)", x.loss(2, 1), 8);
        x.addLink(0, 3, 500, 500);
        Check.due("loss(1, 2) in a ring", x.loss(1, 2), 0);
        Check.due("loss(0, 3) in a ring", x.loss(0, 3), 0);
        x.setUp(0, 1, 0);
        Check.due("loss(0, 1) of a link that is down", x.loss(0, 1), 0);
        Check.due("loss(2, 3)", x.loss(2, 3), 8);
        Check.due("loss(0, 3)", x.loss(0, 3), 6);
        Check.due("link(2, 3, 3)", x.link(2, 3, 3), 1);
        Check.due("link(0, 1, 3)", x.link(0, 1, 3), 0);
    }

    private static void wrongArguments() {
        IntervalRouting x = row(3, 5);
        int[][] wrong = {{-1, 0}, {0, -1}, {3, 0}, {0, 3}, {1, 1}, {Integer.MIN_VALUE, 0}, {0, Integer.MAX_VALUE}};
        for (int[] w : wrong) {
            Check.due("loss(" + w[0] + ", " + w[1] + ")", x.loss(w[0], w[1]), -1);
            Check.due("recovery(" + w[0] + ", " + w[1] + ")", x.recovery(w[0], w[1]), -1);
        }
        Check.due("loss(0, 2)", x.loss(0, 2), -4);
        Check.due("recovery(0, 2)", x.recovery(0, 2), -4);
        x.setUp(0, 1, 0);
        Check.due("recovery(1, 0)", x.recovery(1, 0), -2);
    }

    private static void recovers() {
        IntervalRouting x = new IntervalRouting();
        x.reset(3);
        x.set(0, 1);
        x.set(3, 0);
        x.set(6, 100);
        x.set(8, 20);
        x.addLink(0, 1, 20, 20);
        x.addLink(1, 2, 1, 1);
        x.run(5);
        // Nodes 0 and 1 count up for 2: 61 and 41, 61 and 81, then 101 and 81 in the third tick.
        Check.due("recovery(1, 2)", x.recovery(1, 2), 3);
        Check.due("recovery(2, 1)", x.recovery(2, 1), 3);
        // Silent on each other from now on, 1 and 2 keep their ways for 0 until both expire at 18.
        x.set(3, 1);
        Check.due("recovery(0, 1) at 5", x.recovery(0, 1), 14);
        IntervalRouting y = row(3, 5);
        y.run(20);
        Check.due("recovery(1, 2), no loop by split horizon", y.recovery(1, 2), 1);
        Check.due("recovery(0, 1), no loop by split horizon", y.recovery(0, 1), 1);
    }

    /** Two nodes that count up by twice ten in each four ticks, at the third and the fourth one. */
    private static IntervalRouting slow(int infinity) {
        IntervalRouting x = new IntervalRouting();
        x.reset(3);
        x.set(3, 0);
        x.set(6, infinity);
        x.set(8, 20);
        x.addLink(0, 1, 10, 10);
        x.addLink(1, 2, 1, 1);
        x.run(20);
        return x;
    }

    private static void recoversAtTheLimit() {
        // In the 59th tick node 0 comes to 311, in the 60th node 1 to 321.
        Check.due("recovery(1, 2), infinity 311", slow(311).recovery(1, 2), 59);
        Check.due("recovery(1, 2), infinity 312", slow(312).recovery(1, 2), 60);
        Check.due("recovery(1, 2), infinity 321", slow(321).recovery(1, 2), 60);
        Check.due("recovery(1, 2), infinity 322", slow(322).recovery(1, 2), -4);
        // From 21 on the same comes a tick earlier, from 23 on three.
        int[][] due = {{1, 311, 58}, {1, 312, 59}, {3, 321, 57}, {3, 322, 60}, {3, 331, 60}, {3, 332, -4}};
        for (int[] d : due) {
            IntervalRouting x = slow(d[1]);
            x.setUp(1, 2, 0);
            x.run(d[0]);
            x.setUp(1, 2, 1);
            Check.due("recovery(1, 2) at " + x.time() + ", infinity " + d[1], x.recovery(1, 2), d[2]);
        }
    }

    private static void neverRecovers() {
        IntervalRouting x = new IntervalRouting();
        x.reset(3);
        x.set(0, 20);
        x.set(1, 100);
        x.set(3, 0);
        x.addLink(0, 1, 1, 1);
        x.addLink(1, 2, 1, 1);
        x.run(100);
        Check.due("recovery(1, 2)", x.recovery(1, 2), -4);
        Check.due("recovery(0, 1)", x.recovery(0, 1), -4);
    }

    private static void changesNothing() {
        IntervalRouting x = slow(400);
        x.store();
        int[] before = look(x);
        x.settling();
        x.loss(1, 2);
        x.recovery(1, 2);
        x.recovery(0, 2);
        int[] after = look(x);
        for (int i = 0; i < before.length; i++) {
            Check.due("value " + i + " after the questions", after[i], before[i]);
        }
        x.run(1);
        Check.due("journalSize()", x.journalSize(), before[2]);
        Check.due("recall()", x.recall(), 20);
    }

    private static int[] look(IntervalRouting x) {
        return new int[] {x.time(), x.sent(), x.journalSize(), x.journal(0, 0), x.link(1, 2, 3),
            x.entry(0, 2, 1, 1), x.entry(0, 2, 1, 2), x.entry(0, 2, 1, 3), x.entry(1, 2, 0, 1), x.choice(0, 2),
            x.choice(1, 2), x.wrongPairs(), x.loops(), x.meanWidthBits()};
    }
}
