/** Small networks that several tests begin with, and arguments that are out of every range. */
final class Nets {
    static final int MIN = Integer.MIN_VALUE;
    static final int MAX = Integer.MAX_VALUE;

    private Nets() {
    }

    static int[] bounds(int lower, int upper) {
        return new int[] {lower, upper};
    }

    /** A row of nodes, each joined to the next by a link with these bounds; each node sends in each tick. */
    static IntervalRouting row(int nodes, int lower, int upper) {
        IntervalRouting x = new IntervalRouting();
        x.reset(nodes);
        x.set(0, 1);
        for (int i = 0; i + 1 < nodes; i++) {
            x.addLink(i, i + 1, lower, upper);
        }
        return x;
    }

    /** Another link between 0 and 1: what they hear of each other from now on has other bounds. */
    static void relink(IntervalRouting x, int lower, int upper) {
        x.removeLink(0, 1);
        x.addLink(0, 1, lower, upper);
    }

    /**
     * Node 0 hears of node 3 from 1 and 2, which lie 100 from it, and, if three is not null, from 3 itself: via 1
     * and 2 the bounds are 100 more than those given for them, via 3 they are as given.
     */
    static IntervalRouting fork(int[] one, int[] two, int[] three) {
        IntervalRouting x = new IntervalRouting();
        x.set(0, 1);
        x.addLink(0, 1, 100, 100);
        x.addLink(0, 2, 100, 100);
        x.addLink(1, 3, one[0], one[1]);
        x.addLink(2, 3, two[0], two[1]);
        if (three != null) {
            x.addLink(0, 3, three[0], three[1]);
        }
        x.run(6);
        return x;
    }

    /** A row of five by horizon 0; node 4 has just been cut off, so that 2 and 3 lead to each other. */
    static IntervalRouting counting() {
        IntervalRouting x = row(5, 1, 1);
        x.set(3, 0);
        x.run(6);
        x.setUp(3, 4, 0);
        return x;
    }

    /** 8 nodes and 16 links of bounds 1 to 2: each node with the two that follow it. */
    static IntervalRouting full() {
        IntervalRouting x = new IntervalRouting();
        x.reset(8);
        x.set(0, 1);
        for (int i = 0; i < 8; i++) {
            x.addLink(i, (i + 1) % 8, 1, 2);
            x.addLink(i, (i + 2) % 8, 1, 2);
        }
        return x;
    }

    /** Two nodes and a link at tick 100000, the last one: 501 calls. */
    static IntervalRouting atTheEnd() {
        IntervalRouting x = new IntervalRouting();
        x.addLink(0, 1, 1, 2);
        for (int i = 0; i < 500; i++) {
            x.run(200);
        }
        return x;
    }
}
