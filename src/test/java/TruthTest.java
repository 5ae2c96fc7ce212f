/** Promises 19 to 22: trueDistance, wrongPairs, follow and loops. */
public final class TruthTest {
    public static void main(String[] args) {
        wrongArguments();
        trueDistances();
        longWays();
        wrongByBounds();
        wrongByReach();
        follows();
        followsWithinALoop();
        countsLoops();
        Check.end();
    }

    private static void wrongArguments() {
        IntervalRouting x = new IntervalRouting();
        int[][] wrong = {{-1, 0}, {0, -1}, {4, 0}, {0, 4}, {Integer.MIN_VALUE, 0}, {0, Integer.MAX_VALUE}, {4, 4}};
        for (int[] w : wrong) {
            Check.due("trueDistance(" + w[0] + ", " + w[1] + ")", x.trueDistance(w[0], w[1]), -1);
            Check.due("follow(" + w[0] + ", " + w[1] + ")", x.follow(w[0], w[1]), -1);
        }
        Check.due("follow(2, 2)", x.follow(2, 2), -1);
        Check.due("trueDistance(2, 2)", x.trueDistance(2, 2), 0);
        Check.due("trueDistance(2, 1)", x.trueDistance(2, 1), -4);
        Check.due("follow(2, 1)", x.follow(2, 1), -2000);
    }

    private static void trueDistances() {
        IntervalRouting x = new IntervalRouting();
        x.addLink(0, 1, 10, 50);
        x.addLink(1, 2, 10, 50);
        x.addLink(0, 2, 20, 90);
        Check.due("trueDistance(0, 2)", x.trueDistance(0, 2), 20);
        x.setCost(0, 2, 60);
        x.setCost(0, 1, 30);
        Check.due("trueDistance(0, 2) by 1", x.trueDistance(0, 2), 40);
        Check.due("trueDistance(2, 0) by 1", x.trueDistance(2, 0), 40);
        x.setCost(1, 2, 31);
        Check.due("trueDistance(0, 2) direct", x.trueDistance(0, 2), 60);
        x.setUp(0, 2, 0);
        Check.due("trueDistance(0, 2), the link is down", x.trueDistance(0, 2), 61);
        x.removeLink(0, 1);
        Check.due("trueDistance(0, 2), no way", x.trueDistance(0, 2), -4);
        Check.due("trueDistance(0, 3), no way", x.trueDistance(0, 3), -4);
        Check.due("trueDistance(1, 2)", x.trueDistance(1, 2), 31);
        x.run(100);
        Check.due("trueDistance(1, 2)", x.trueDistance(1, 2), 31);
    }

    private static void longWays() {
        IntervalRouting x = new IntervalRouting();
        x.reset(8);
        int[] order = {3, 7, 0, 5, 1, 6, 2, 4};
        for (int i = 0; i < 7; i++) {
            x.addLink(order[i], order[i + 1], 500, 500);
        }
        for (int i = 0; i < 8; i++) {
            for (int j = 0; j < 8; j++) {
                Check.due("trueDistance(" + order[i] + ", " + order[j] + ")",
                    x.trueDistance(order[i], order[j]), 500 * Math.abs(i - j));
            }
        }
    }

    private static void wrongByBounds() {
        IntervalRouting x = new IntervalRouting();
        x.reset(2);
        x.set(0, 1);
        x.addLink(0, 1, 10, 20);
        Check.due("wrongPairs(), a way but none is known", x.wrongPairs(), 2);
        x.run(1);
        Check.due("wrongPairs() at the lower bound", x.wrongPairs(), 0);
        x.setCost(0, 1, 20);
        Check.due("wrongPairs() at the upper bound", x.wrongPairs(), 0);
        int[][] bounds = {{21, 21, 2}, {9, 9, 2}, {1, 10, 2}, {15, 30, 0}, {30, 30, 2}};
        for (int[] b : bounds) {
            x.removeLink(0, 1);
            x.addLink(0, 1, b[0], b[1]);
            Check.due("wrongPairs() for " + b[0], x.wrongPairs(), b[2]);
        }
        x.run(1);
        Check.due("wrongPairs() once told", x.wrongPairs(), 0);
    }

    private static void wrongByReach() {
        IntervalRouting x = new IntervalRouting();
        x.set(0, 1);
        x.addLink(0, 1, 10, 20);
        x.addLink(1, 2, 10, 20);
        x.run(1);
        Check.due("wrongPairs(), 0 and 2 do not know each other yet", x.wrongPairs(), 2);
        x.run(1);
        Check.due("wrongPairs()", x.wrongPairs(), 0);
        x.setUp(1, 2, 0);
        Check.due("wrongPairs(), 0 knows a distance but there is no way", x.wrongPairs(), 1);
        x.run(1);
        Check.due("wrongPairs(), node 1 told it", x.wrongPairs(), 0);
        x.setUp(1, 2, 1);
        Check.due("wrongPairs(), 0 and 2 once more; 1 and 2 know", x.wrongPairs(), 1);
    }

    private static void follows() {
        IntervalRouting x = new IntervalRouting();
        x.reset(5);
        x.set(0, 1);
        for (int i = 0; i < 4; i++) {
            x.addLink(i, i + 1, 1, 1);
        }
        x.run(5);
        for (int i = 0; i < 5; i++) {
            for (int j = 0; j < 5; j++) {
                Check.due("follow(" + i + ", " + j + ")", x.follow(i, j), i == j ? -1 : Math.abs(i - j));
            }
        }
        x.setUp(2, 3, 0);
        Check.due("follow(2, 4)", x.follow(2, 4), -2000);
        Check.due("follow(1, 4)", x.follow(1, 4), -2001);
        Check.due("follow(0, 4)", x.follow(0, 4), -2002);
        Check.due("follow(4, 3)", x.follow(4, 3), 1);
        Check.due("follow(4, 1)", x.follow(4, 1), -2001);
        Check.due("loops(), dead ends are none", x.loops(), 0);
    }

    private static IntervalRouting counting() {
        IntervalRouting x = new IntervalRouting();
        x.reset(5);
        x.set(0, 1);
        x.set(3, 0);
        for (int i = 0; i < 4; i++) {
            x.addLink(i, i + 1, 1, 1);
        }
        x.run(6);
        x.setUp(3, 4, 0);
        return x;
    }

    private static void followsWithinALoop() {
        IntervalRouting x = counting();
        // Node 3 now goes back to 2, which still goes to 3.
        Check.due("follow(3, 4)", x.follow(3, 4), -1002);
        Check.due("follow(2, 4)", x.follow(2, 4), -1002);
        Check.due("follow(1, 4)", x.follow(1, 4), -1003);
        Check.due("follow(0, 4)", x.follow(0, 4), -1004);
        Check.due("follow(4, 0)", x.follow(4, 0), -2000);
        Check.due("follow(0, 3)", x.follow(0, 3), 3);
    }

    private static void countsLoops() {
        IntervalRouting x = new IntervalRouting();
        Check.due("loops()", x.loops(), 0);
        x = counting();
        Check.due("loops()", x.loops(), 4);
        x.setUp(3, 4, 1);
        Check.due("loops()", x.loops(), 0);
        x.setUp(3, 4, 0);
        x.setUp(0, 1, 0);
        // For 4: 1, 2 and 3; for 0: 1, 2 and 3.
        Check.due("loops()", x.loops(), 6);
    }
}
