import java.util.List;

/** Promises 23 to 25: settling, loss and recovery. */
public final class ForecastTest {
    private static final int[] NO_NODES = {-1, 3, 4, 8, Nets.MIN, Nets.MAX};

    public static void main(String[] args) {
        settling();
        loss();
        recovery();
        Check.end();
    }

    private static void settling() {
        settlesFromNowOn();
        settlesAfterAChange();
        quietFor40Ticks();
        settlesAtOnce();
        settlesAtTheLimit();
        neverSettles();
        settlingChangesNothing();
    }

    private static void loss() {
        lossOfBridges();
        lossInARing();
        lossOfALinkThatIsDown();
        lossOfFewAndMany();
        lossOutOfRange();
        lossWhereNoneIs();
        lossChangesNothing();
    }

    private static void recovery() {
        recoversAtOnce();
        recovers();
        loopsComeBack();
        recoversAtTheLimit();
        neverRecovers();
        recoveryOutOfRange();
        recoveryOfALinkThatIsDown();
        recoveryWhereNoneIs();
        recoveryChangesNothing();
    }

    /** A row with the settings of a new object. */
    private static IntervalRouting row(int nodes, int cost) {
        IntervalRouting x = new IntervalRouting();
        x.reset(nodes);
        for (int i = 0; i + 1 < nodes; i++) {
            x.addLink(i, i + 1, cost, cost);
        }
        return x;
    }

    private static void settlesFromNowOn() {
        Check.sentence("Promise 23", "in the ticks k + 1 to k + 40 from now on");
        IntervalRouting x = row(2, 5);
        // Node 1 sends at tick 3, node 0 at tick 4.
        int[] due = {4, 3, 2, 1, 0, 0};
        for (int tick = 0; tick <= 5; tick++) {
            Check.due("settling() at " + tick, x.settling(), due[tick]);
            x.run(1);
        }
    }

    private static void settlesAfterAChange() {
        Check.sentence("Promise 23", "if nothing else is changed");
        IntervalRouting x = row(2, 5);
        x.run(10);
        x.setUp(0, 1, 0);
        Check.due("settling(), the next tick notes the change", x.settling(), 1);
        x.setUp(0, 1, 1);
        Check.due("settling()", x.settling(), 0);
        x.set(0, 20);
        x.set(1, 1);
        // Heard at 7 and 8, what they have expires at 20 and 21.
        Check.due("settling(), both lose each other from time to time", x.settling(), -4);
    }

    private static void quietFor40Ticks() {
        Check.sentence("Promise 23", "no choice changes in the ticks k + 1 to k + 40");
        // Node 0 has no choice from 39 on and node 1 from 40 on; after the hold they choose anew, one tick apart.
        int[][] due = {{38, 39}, {39, 40}, {40, 41}, {41, 0}};
        for (int[] d : due) {
            IntervalRouting x = row(2, 5);
            x.set(0, 20);
            x.set(1, 100);
            x.set(8, 1);
            x.run(20);
            Nets.relink(x, 6, 6);
            x.set(9, d[0]);
            x.run(20);
            Check.due("entry(1, 0, 0, 4)", x.entry(1, 0, 0, 4), 40 + d[0]);
            Check.due("settling() at 40 with a hold of " + d[0], x.settling(), d[1]);
        }
    }

    private static void settlesAtOnce() {
        Check.sentence("Promise 23", "Returns k, 0 to 200");
        Check.due("settling() without links", new IntervalRouting().settling(), 0);
        IntervalRouting x = Nets.full();
        x.run(100);
        Check.due("settling() at 100", x.settling(), 0);
    }

    /** A ring of three counts up for the node that is lost, and its entries are held by turns, until tick 478. */
    private static IntervalRouting ring() {
        IntervalRouting x = new IntervalRouting();
        x.set(0, 10);
        x.set(3, 0);
        x.set(6, 1248);
        x.addLink(0, 1, 1, 18);
        x.addLink(0, 2, 22, 22);
        x.addLink(1, 2, 25, 25);
        x.addLink(2, 3, 19, 19);
        x.run(100);
        x.setUp(2, 3, 0);
        x.run(177);
        return x;
    }

    private static void settlesAtTheLimit() {
        Check.sentence("Promise 23", "Returns k, 0 to 200; NOT_FOUND if there is none.");
        IntervalRouting x = ring();
        Check.due("settling() at 277", x.settling(), -4);
        x.run(1);
        Check.due("settling() at 278", x.settling(), 200);
        x.run(1);
        Check.due("settling() at 279", x.settling(), 199);
        int last = 0;
        for (int tick = 280; tick <= 600; tick++) {
            x.run(1);
            if (x.journal(0, 0) == tick) {
                Check.holds("no 40 quiet ticks before " + tick, last == 0 || tick - last <= 40);
                last = tick;
            }
        }
        Check.due("the tick of the last change", last, 478);
    }

    private static void neverSettles() {
        Check.sentence("Promise 23", "NOT_FOUND if there is none");
        IntervalRouting x = row(2, 5);
        x.set(0, 20);
        x.set(1, 1);
        Check.due("settling()", x.settling(), -4);
        x.set(1, 100);
        Check.due("settling()", x.settling(), 20);
    }

    /** 3 nodes on their way, with something stored. */
    private static IntervalRouting underWay() {
        IntervalRouting x = Nets.row(3, 1, 5);
        x.set(0, 3);
        x.set(3, 0);
        x.set(7, 1);
        x.set(8, 1);
        x.run(2);
        x.store();
        Nets.relink(x, 3, 9);
        x.setCost(0, 1, 4);
        x.run(3);
        return x;
    }

    private static void settlingChangesNothing() {
        Check.sentence("Promise 23", "what would come; nothing changes");
        List<Integer> due = Look.spend(underWay());
        IntervalRouting x = underWay();
        x.settling();
        Check.holds("all is as before once asked", Look.spend(x).equals(due));
        IntervalRouting y = underWay();
        y.set(0, 20);
        y.set(1, 1);
        Check.due("settling()", y.settling(), -4);
        y.set(0, 3);
        y.set(1, 13);
        Check.holds("all is as before once there is none", Look.spend(y).equals(due));
    }

    private static void lossOfBridges() {
        Check.sentence("Promise 24", "for which there is a way now, but would be none if a link were down");
        IntervalRouting x = row(4, 5);
        Check.due("loss(0, 1)", x.loss(0, 1), 6);
        Check.due("loss(1, 0)", x.loss(1, 0), 6);
        Check.due("loss(2, 1)", x.loss(2, 1), 8);
        x.setUp(0, 1, 0);
        Check.due("loss(1, 2), 0 is lost before", x.loss(1, 2), 4);
    }

    private static void lossInARing() {
        Check.sentence("Promise 24", "for which there is a way now, but would be none if a link were down");
        IntervalRouting x = row(4, 5);
        x.addLink(0, 3, 500, 500);
        Check.due("loss(1, 2) in a ring", x.loss(1, 2), 0);
        Check.due("loss(0, 3) in a ring", x.loss(0, 3), 0);
        x.setUp(0, 1, 0);
        Check.due("loss(2, 3), the ring is open", x.loss(2, 3), 8);
        Check.due("loss(0, 3), the ring is open", x.loss(0, 3), 6);
    }

    private static void lossOfALinkThatIsDown() {
        Check.sentence("Promise 24", "for which there is a way now, but would be none if a link were down");
        IntervalRouting x = row(2, 5);
        x.setUp(0, 1, 0);
        Check.due("loss(0, 1), no way now", x.loss(0, 1), 0);
        Check.due("link(0, 1, 3)", x.link(0, 1, 3), 0);
    }

    private static void lossOfFewAndMany() {
        Check.sentence("Promise 24", "Returns the number of pairs");
        Check.due("loss(0, 1) of 2 nodes", row(2, 500).loss(0, 1), 2);
        int[] due = {14, 24, 30, 32, 30, 24, 14};
        for (int i = 0; i < 7; i++) {
            Check.due("loss(" + i + ", " + (i + 1) + ") of 8 nodes", row(8, 500).loss(i, i + 1), due[i]);
        }
        Check.due("loss(0, 1) of 16 links", Nets.full().loss(0, 1), 0);
    }

    private static void lossOutOfRange() {
        Check.sentence("Promise 24", "INVALID_ARGUMENT if there is no such node or both are the same");
        IntervalRouting x = row(3, 5);
        for (int none : NO_NODES) {
            Check.due("loss(" + none + ", 0)", x.loss(none, 0), -1);
            Check.due("loss(0, " + none + ")", x.loss(0, none), -1);
        }
        for (int node = 0; node < 3; node++) {
            Check.due("loss(" + node + ", " + node + ")", x.loss(node, node), -1);
        }
    }

    private static void lossWhereNoneIs() {
        Check.sentence("Promise 24", "NOT_FOUND if there is no link between them");
        IntervalRouting x = row(3, 5);
        Check.due("loss(0, 2), there is a way", x.loss(0, 2), -4);
        Check.due("loss(2, 0), there is a way", x.loss(2, 0), -4);
        x.removeLink(0, 1);
        Check.due("loss(0, 1), once removed", x.loss(0, 1), -4);
    }

    private static void lossChangesNothing() {
        Check.sentence("Promise 23", "what would come; nothing changes");
        List<Integer> due = Look.spend(underWay());
        IntervalRouting x = underWay();
        Check.due("loss(0, 1)", x.loss(0, 1), 4);
        Check.due("loss(0, 2)", x.loss(0, 2), -4);
        Check.holds("all is as before", Look.spend(x).equals(due));
    }

    private static void recoversAtOnce() {
        Check.sentence("Promise 25", "the least number k from 1 on");
        IntervalRouting x = row(3, 5);
        Check.due("recovery(0, 1) at 0", x.recovery(0, 1), 1);
        x.run(20);
        Check.due("recovery(1, 2), no loop by split horizon", x.recovery(1, 2), 1);
        Check.due("recovery(0, 1), no loop by split horizon", x.recovery(0, 1), 1);
    }

    private static void recovers() {
        Check.sentence("Promise 25", "Finds how many ticks after a link has gone down there is no loop any more");
        IntervalRouting x = Nets.row(3, 1, 1);
        x.set(3, 0);
        x.set(6, 100);
        x.set(8, 20);
        Nets.relink(x, 20, 20);
        x.run(5);
        // Nodes 0 and 1 count up for 2: 61 and 41, 61 and 81, then 101 and 81 in the third tick.
        Check.due("recovery(1, 2)", x.recovery(1, 2), 3);
        Check.due("recovery(2, 1)", x.recovery(2, 1), 3);
        // Silent on each other from now on, 1 and 2 keep their ways for 0 until both expire at 18.
        x.set(3, 1);
        Check.due("recovery(0, 1) at 5", x.recovery(0, 1), 14);
    }

    private static void loopsComeBack() {
        Check.sentence("Promise 25", "loops would be 0 after k ticks and after each further tick up to 60");
        IntervalRouting x = new IntervalRouting();
        x.set(0, 1);
        x.set(8, 1);
        x.set(9, 7);
        x.addLink(0, 1, 2, 2);
        x.addLink(0, 2, 1, 1);
        x.addLink(1, 2, 3, 3);
        x.addLink(2, 3, 1, 1);
        x.run(21);
        Check.due("recovery(2, 3)", x.recovery(2, 3), 5);
        x.setUp(2, 3, 0);
        // Node 0 holds what it has of 2, and no loop is left; then 1 turns to 2, which goes to 1, and 0 follows.
        // In the fifth tick node 1 holds both.
        int[] due = {0, 2, 3, 3, 0, 0};
        for (int k = 1; k <= 6; k++) {
            x.run(1);
            Check.due("loops() after " + k, x.loops(), due[k - 1]);
        }
    }

    /** Two nodes that count up by twice ten in each four ticks, at the third and the fourth one. */
    private static IntervalRouting slow(int infinity) {
        IntervalRouting x = row(3, 1);
        x.set(3, 0);
        x.set(6, infinity);
        x.set(8, 20);
        Nets.relink(x, 10, 10);
        x.run(20);
        return x;
    }

    private static void recoversAtTheLimit() {
        Check.sentence("Promise 25", "Returns k, 1 to 60");
        // In the 59th tick node 0 comes to 311, in the 60th node 1 to 321.
        Check.due("recovery(1, 2), infinity 311", slow(311).recovery(1, 2), 59);
        Check.due("recovery(1, 2), infinity 312", slow(312).recovery(1, 2), 60);
        Check.due("recovery(1, 2), infinity 321", slow(321).recovery(1, 2), 60);
        Check.due("recovery(1, 2), infinity 322", slow(322).recovery(1, 2), -4);
        // From 21 on the same comes a tick earlier, from 23 on three.
        int[][] due = {{1, 311, 58}, {1, 312, 59}, {3, 321, 57}, {3, 322, 60}, {3, 331, 60}, {3, 332, -4}};
        for (int[] d : due) {
            IntervalRouting x = slow(d[1]);
            x.setUp(1, 2, 0);
            x.run(d[0]);
            x.setUp(1, 2, 1);
            Check.due("recovery(1, 2) at " + x.time() + ", infinity " + d[1], x.recovery(1, 2), d[2]);
        }
    }

    private static void neverRecovers() {
        Check.sentence("Promise 25", "or no such k");
        IntervalRouting x = row(3, 1);
        x.set(0, 20);
        x.set(1, 100);
        x.set(3, 0);
        x.run(100);
        Check.due("recovery(1, 2)", x.recovery(1, 2), -4);
        Check.due("recovery(0, 1)", x.recovery(0, 1), -4);
    }

    private static void recoveryOutOfRange() {
        Check.sentence("Promise 25", "INVALID_ARGUMENT if there is no such node or both are the same");
        IntervalRouting x = row(3, 5);
        for (int none : NO_NODES) {
            Check.due("recovery(" + none + ", 0)", x.recovery(none, 0), -1);
            Check.due("recovery(0, " + none + ")", x.recovery(0, none), -1);
        }
        for (int node = 0; node < 3; node++) {
            Check.due("recovery(" + node + ", " + node + ")", x.recovery(node, node), -1);
        }
    }

    private static void recoveryOfALinkThatIsDown() {
        Check.sentence("Promise 25", "NOT_POSSIBLE if the link is down");
        IntervalRouting x = row(3, 5);
        x.run(10);
        x.setUp(0, 1, 0);
        Check.due("recovery(0, 1)", x.recovery(0, 1), -2);
        Check.due("recovery(1, 0)", x.recovery(1, 0), -2);
        Check.due("recovery(1, 2), which is up", x.recovery(1, 2), 1);
        x.setUp(0, 1, 1);
        Check.due("recovery(0, 1), up again", x.recovery(0, 1), 1);
    }

    private static void recoveryWhereNoneIs() {
        Check.sentence("Promise 25", "NOT_FOUND if there is no link between them");
        IntervalRouting x = row(3, 5);
        x.run(10);
        Check.due("recovery(0, 2)", x.recovery(0, 2), -4);
        Check.due("recovery(2, 0)", x.recovery(2, 0), -4);
        x.setUp(0, 1, 0);
        x.removeLink(0, 1);
        Check.due("recovery(0, 1), once removed", x.recovery(0, 1), -4);
    }

    private static void recoveryChangesNothing() {
        Check.sentence("Promise 23", "what would come; nothing changes");
        List<Integer> due = Look.spend(underWay());
        IntervalRouting x = underWay();
        Check.holds("some number comes", x.recovery(0, 1) > 0);
        Check.holds("all is as before", Look.spend(x).equals(due));
        IntervalRouting y = underWay();
        y.setUp(1, 2, 0);
        Check.due("recovery(1, 2)", y.recovery(1, 2), -2);
        y.setUp(1, 2, 1);
        Check.due("recovery(0, 2)", y.recovery(0, 2), -4);
        Check.holds("all is as before once it is refused", Look.spend(y).equals(due));
    }
}
