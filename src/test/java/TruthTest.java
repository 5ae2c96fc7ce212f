/** The part True distances and promises 19 to 22: trueDistance, wrongPairs, follow and loops. */
public final class TruthTest {
    private static final int[] NO_NODES = {-1, 4, 5, 8, Nets.MIN, Nets.MAX};

    public static void main(String[] args) {
        truth();
        trueDistance();
        wrongPairs();
        follow();
        loops();
        Check.end();
    }

    private static void truth() {
        leastSum();
        onlyLinksThatAreUp();
        noughtToItself();
        longWays();
    }

    private static void trueDistance() {
        trueDistanceOutOfRange();
        trueDistanceWithoutAWay();
    }

    private static void wrongPairs() {
        wrongBesideTheBounds();
        wrongThoughAWay();
        wrongWithoutAWay();
        rightWithoutAWay();
        allWrong();
    }

    private static void follow() {
        followSteps();
        followOneStep();
        followALoop();
        followADeadEnd();
        followOutOfRange();
    }

    private static void loops() {
        noLoops();
        countsLoops();
        deadEndsAreNone();
    }

    private static void leastSum() {
        Check.sentence("True distances", "the least sum of true costs of the links of a way");
        IntervalRouting x = new IntervalRouting();
        x.addLink(0, 1, 10, 50);
        x.addLink(1, 2, 10, 50);
        x.addLink(0, 2, 20, 90);
        Check.due("trueDistance(0, 2), both ways are equal", x.trueDistance(0, 2), 20);
        x.setCost(0, 2, 60);
        x.setCost(0, 1, 30);
        Check.due("trueDistance(0, 2) by 1", x.trueDistance(0, 2), 40);
        Check.due("trueDistance(2, 0) by 1", x.trueDistance(2, 0), 40);
        x.setCost(1, 2, 29);
        Check.due("trueDistance(0, 2) by 1, just", x.trueDistance(0, 2), 59);
        x.setCost(1, 2, 31);
        Check.due("trueDistance(0, 2) direct, just", x.trueDistance(0, 2), 60);
        x.run(100);
        Check.due("trueDistance(1, 2)", x.trueDistance(1, 2), 31);
    }

    private static void onlyLinksThatAreUp() {
        Check.sentence("True distances", "a way over links that are up");
        IntervalRouting x = new IntervalRouting();
        x.addLink(0, 1, 30, 30);
        x.addLink(1, 2, 31, 31);
        x.addLink(0, 2, 1, 60);
        x.setUp(0, 2, 0);
        Check.due("trueDistance(0, 2), the link is down", x.trueDistance(0, 2), 61);
        x.setUp(0, 1, 0);
        Check.due("trueDistance(0, 2), two are down", x.trueDistance(0, 2), -4);
        x.setUp(0, 2, 1);
        Check.due("trueDistance(0, 2), one is up", x.trueDistance(0, 2), 1);
        x.removeLink(0, 2);
        Check.due("trueDistance(0, 2), removed", x.trueDistance(0, 2), -4);
    }

    private static void noughtToItself() {
        Check.sentence("True distances", "0 for a node to itself");
        IntervalRouting x = Nets.full();
        IntervalRouting y = new IntervalRouting();
        y.reset(8);
        for (int node = 0; node < 8; node++) {
            Check.due("trueDistance(" + node + ", " + node + ")", x.trueDistance(node, node), 0);
            Check.due("trueDistance(" + node + ", " + node + ") without links", y.trueDistance(node, node), 0);
        }
    }

    private static void longWays() {
        Check.sentence("True distances", "the least sum of true costs of the links of a way");
        IntervalRouting x = new IntervalRouting();
        x.reset(8);
        int[] order = {3, 7, 0, 5, 1, 6, 2, 4};
        for (int i = 0; i < 7; i++) {
            x.addLink(order[i], order[i + 1], 500, 500);
        }
        for (int i = 0; i < 8; i++) {
            for (int j = 0; j < 8; j++) {
                Check.due("trueDistance(" + order[i] + ", " + order[j] + ")",
                    x.trueDistance(order[i], order[j]), 500 * Math.abs(i - j));
            }
        }
    }

    private static void trueDistanceOutOfRange() {
        Check.sentence("Promise 19", "INVALID_ARGUMENT if there is no such node");
        IntervalRouting x = new IntervalRouting();
        x.addLink(0, 3, 1, 1);
        for (int none : NO_NODES) {
            Check.due("trueDistance(" + none + ", 0)", x.trueDistance(none, 0), -1);
            Check.due("trueDistance(0, " + none + ")", x.trueDistance(0, none), -1);
            Check.due("trueDistance(" + none + ", " + none + ")", x.trueDistance(none, none), -1);
        }
        Check.due("trueDistance(0, 3)", x.trueDistance(0, 3), 1);
    }

    private static void trueDistanceWithoutAWay() {
        Check.sentence("Promise 19", "NOT_FOUND if there is no way");
        IntervalRouting x = new IntervalRouting();
        x.addLink(0, 1, 1, 1);
        x.addLink(2, 3, 1, 1);
        for (int a = 0; a < 4; a++) {
            for (int b = 0; b < 4; b++) {
                int due = a == b ? 0 : a / 2 == b / 2 ? 1 : -4;
                Check.due("trueDistance(" + a + ", " + b + ")", x.trueDistance(a, b), due);
            }
        }
    }

    private static void wrongBesideTheBounds() {
        Check.sentence("Promise 20", "the true distance does not lie in it");
        IntervalRouting x = Nets.row(2, 10, 20);
        x.run(1);
        Check.due("wrongPairs() at the lower bound", x.wrongPairs(), 0);
        x.setCost(0, 1, 20);
        Check.due("wrongPairs() at the upper bound", x.wrongPairs(), 0);
        int[][] due = {{21, 21, 2}, {9, 9, 2}, {1, 10, 2}, {15, 30, 0}, {30, 30, 2}, {10, 10, 0}, {20, 20, 0}};
        for (int[] d : due) {
            Nets.relink(x, d[0], d[1]);
            Check.due("wrongPairs() for " + d[0], x.wrongPairs(), d[2]);
        }
        Nets.relink(x, 30, 30);
        x.run(1);
        Check.due("wrongPairs() once told", x.wrongPairs(), 0);
    }

    private static void wrongThoughAWay() {
        Check.sentence("Promise 20", "or the target is unreachable but there is a way");
        IntervalRouting x = Nets.row(3, 10, 20);
        Check.due("wrongPairs() at 0, all", x.wrongPairs(), 6);
        x.run(1);
        Check.due("wrongPairs() at 1, 0 and 2 do not know each other yet", x.wrongPairs(), 2);
        x.run(1);
        Check.due("wrongPairs() at 2", x.wrongPairs(), 0);
        x.set(6, 100);
        x.removeLink(1, 2);
        x.addLink(1, 2, 80, 80);
        x.run(2);
        Check.due("wrongPairs(), 100 is at infinity", x.wrongPairs(), 2);
    }

    private static void wrongWithoutAWay() {
        Check.sentence("Promise 20", "or there is a distance but no way");
        IntervalRouting x = Nets.row(3, 10, 20);
        x.run(2);
        x.setUp(1, 2, 0);
        Check.due("wrongPairs(), 0 knows a distance but there is no way", x.wrongPairs(), 1);
        x.run(1);
        Check.due("wrongPairs(), node 1 told it", x.wrongPairs(), 0);
        x.setUp(1, 2, 1);
        Check.due("wrongPairs(), 0 and 2 once more; 1 and 2 know", x.wrongPairs(), 1);
    }

    private static void rightWithoutAWay() {
        Check.sentence("Promise 20", "Counts the pairs of a node and another node for which the distance is wrong");
        Check.due("wrongPairs() of a new object", new IntervalRouting().wrongPairs(), 0);
        IntervalRouting x = new IntervalRouting();
        x.reset(8);
        x.run(50);
        Check.due("wrongPairs() without links", x.wrongPairs(), 0);
    }

    private static void allWrong() {
        Check.sentence("Promise 20", "Counts the pairs of a node and another node for which the distance is wrong");
        Check.due("wrongPairs() at 0", Nets.full().wrongPairs(), 56);
    }

    private static void followSteps() {
        Check.sentence("Promise 21", "Returns the number of steps to the target");
        IntervalRouting x = Nets.row(8, 1, 1);
        x.run(8);
        for (int i = 0; i < 8; i++) {
            for (int j = 0; j < 8; j++) {
                Check.due("follow(" + i + ", " + j + ")", x.follow(i, j), i == j ? -1 : Math.abs(i - j));
            }
        }
    }

    private static void followOneStep() {
        Check.sentence("Promise 21", "Returns the number of steps to the target");
        IntervalRouting x = Nets.row(2, 1, 1);
        x.run(1);
        Check.due("follow(0, 1)", x.follow(0, 1), 1);
        Check.due("follow(1, 0)", x.follow(1, 0), 1);
    }

    private static void followALoop() {
        Check.sentence("Promise 21", "k at least 1, a node comes up that was there before");
        IntervalRouting x = Nets.counting();
        // Node 3 now goes back to 2, which still goes to 3.
        Check.due("follow(3, 4)", x.follow(3, 4), -1002);
        Check.due("follow(2, 4)", x.follow(2, 4), -1002);
        Check.due("follow(1, 4), not the first node", x.follow(1, 4), -1003);
        Check.due("follow(0, 4), not the first node", x.follow(0, 4), -1004);
        Check.due("follow(0, 3)", x.follow(0, 3), 3);
        IntervalRouting y = Nets.row(8, 1, 1);
        y.set(3, 0);
        y.run(9);
        y.setUp(6, 7, 0);
        Check.due("follow(0, 7), the longest one", y.follow(0, 7), -1007);
    }

    private static void followADeadEnd() {
        Check.sentence("Promise 21", "-2000 - k if after k steps a node is reached that has no choice");
        IntervalRouting x = Nets.row(8, 1, 1);
        Check.due("follow(0, 7) at 0", x.follow(0, 7), -2000);
        x.run(8);
        x.setUp(6, 7, 0);
        for (int node = 0; node < 7; node++) {
            Check.due("follow(" + node + ", 7)", x.follow(node, 7), -2006 + node);
        }
        Check.due("follow(7, 0)", x.follow(7, 0), -2000);
    }

    private static void followOutOfRange() {
        Check.sentence("Promise 21", "INVALID_ARGUMENT if there is no such node or both are the same");
        IntervalRouting x = new IntervalRouting();
        for (int none : NO_NODES) {
            Check.due("follow(" + none + ", 0)", x.follow(none, 0), -1);
            Check.due("follow(0, " + none + ")", x.follow(0, none), -1);
        }
        for (int node = 0; node < 4; node++) {
            Check.due("follow(" + node + ", " + node + ")", x.follow(node, node), -1);
        }
    }

    private static void noLoops() {
        Check.sentence("Promise 22", "for which follow comes to a node that was there before");
        Check.due("loops() of a new object", new IntervalRouting().loops(), 0);
        IntervalRouting x = Nets.full();
        Check.due("loops() at 0", x.loops(), 0);
        x.run(10);
        Check.due("loops() at 10", x.loops(), 0);
    }

    private static void countsLoops() {
        Check.sentence("Promise 22", "Returns the number of pairs of a node and another node");
        IntervalRouting x = Nets.counting();
        Check.due("loops()", x.loops(), 4);
        x.setUp(3, 4, 1);
        Check.due("loops()", x.loops(), 0);
        x.setUp(3, 4, 0);
        x.setUp(0, 1, 0);
        // For 4: 1, 2 and 3; for 0: 1, 2 and 3.
        Check.due("loops()", x.loops(), 6);
        IntervalRouting y = Nets.row(3, 1, 1);
        y.set(3, 0);
        y.run(4);
        y.setUp(1, 2, 0);
        Check.due("loops(), the least number: both that lead to each other", y.loops(), 2);
    }

    private static void deadEndsAreNone() {
        Check.sentence("Promise 22", "for which follow comes to a node that was there before");
        IntervalRouting x = Nets.row(5, 1, 1);
        x.run(5);
        x.setUp(2, 3, 0);
        Check.due("follow(0, 4)", x.follow(0, 4), -2002);
        Check.due("loops()", x.loops(), 0);
    }
}
