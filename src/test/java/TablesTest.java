/** The part Tables and promises 12 to 16: entry, distance, choice, entries and meanWidthBits. */
public final class TablesTest {
    private static final int MIN = Nets.MIN;
    private static final int MAX = Nets.MAX;
    private static final int[] NO_NODES = {-1, 4, 5, 8, MIN, MAX};

    public static void main(String[] args) {
        table();
        usable();
        distances();
        choices();
        domination();
        entry();
        distance();
        choice();
        entries();
        meanWidthBits();
        Check.end();
    }

    private static void table() {
        oneEntryAtMost();
        entriesOfAFullNetwork();
        neverHeld();
    }

    private static void usable() {
        usableUpToTheExpiry();
        usableBelowInfinity();
        usableAfterTheHold();
        usableFromANeighbour();
    }

    private static void distances() {
        distanceOfOneEntry();
        distanceOfSeveralEntries();
        distanceOfTheUsableOnes();
        distanceToItself();
        unreachable();
    }

    private static void choices() {
        worstCase();
        worstCaseEqual();
        regret();
        regretOfUsableOnes();
        regretEqual();
        regretOfOneEntry();
        bestCase();
        bestCaseEqual();
        lowestSender();
        senderNought();
        noChoice();
    }

    private static void domination() {
        dominated();
        dominatedAtMost();
        notDominated();
        bothDominated();
        onlyOneOfTwoPoints();
        dominatedIfUsable();
        dominatedByUsable();
        dominatedByTheSameTarget();
    }

    private static void entry() {
        entryValues();
        entryHeld();
        entryUsable();
        entryDominated();
        entryOutOfRange();
        entryOfItself();
        entryOfTheTarget();
        entryWhereNoneIs();
    }

    private static void distance() {
        distanceBounds();
        distanceOutOfRange();
        distanceWhereNoneIs();
    }

    private static void choice() {
        choiceOutOfRange();
        choiceWhereNoneIs();
    }

    private static void entries() {
        allEntries();
        usableEntries();
        dominatedEntries();
        heldEntries();
        heldThoughExpired();
        entriesOutOfRange();
    }

    private static void meanWidthBits() {
        noPair();
        onePair();
        widthNought();
        meansOfManyPairs();
        meansBelowAndAboveOne();
    }

    private static int[] bounds(int lower, int upper) {
        return Nets.bounds(lower, upper);
    }

    private static void oneEntryAtMost() {
        Check.sentence("Tables", "at most one entry for each target (another node) and each sender (another node)");
        IntervalRouting x = Nets.row(2, 3, 6);
        x.run(1);
        Check.due("entries(0, 1, 0) at 1", x.entries(0, 1, 0), 1);
        x.run(20);
        Check.due("entries(0, 1, 0) at 21", x.entries(0, 1, 0), 1);
        Nets.relink(x, 4, 7);
        x.run(1);
        Check.due("entries(0, 1, 0) of another link", x.entries(0, 1, 0), 1);
        Check.due("entry(0, 1, 1, 1), the latest one", x.entry(0, 1, 1, 1), 7);
    }

    private static void entriesOfAFullNetwork() {
        Check.sentence("Tables", "at most one entry for each target (another node) and each sender (another node)");
        IntervalRouting x = Nets.full();
        x.set(3, 0);
        x.run(6);
        for (int node = 0; node < 8; node++) {
            for (int target = 0; target < 8; target++) {
                Check.due("entries(" + node + ", " + target + ", 0)", x.entries(node, target, 0),
                    node == target ? -1 : 4);
            }
        }
        Check.due("entries(0, 4, 0), from all the seven others", star().entries(0, 4, 0), 7);
        Check.due("entries(4, 0, 0)", star().entries(4, 0, 0), 1);
    }

    /** Node 0 amid seven others, at the cost of 9 less their number; all tell it what they have from it. */
    private static IntervalRouting star() {
        IntervalRouting x = new IntervalRouting();
        x.reset(8);
        x.set(0, 1);
        for (int i = 1; i < 8; i++) {
            x.addLink(0, i, 9 - i, 9 - i);
        }
        x.set(3, 0);
        x.run(5);
        return x;
    }

    private static void neverHeld() {
        Check.sentence("Tables", "the tick up to which it is held (0 if it was never held)");
        IntervalRouting x = Nets.row(2, 3, 6);
        x.run(30);
        Check.due("entry(0, 1, 1, 4)", x.entry(0, 1, 1, 4), 0);
        Check.due("entries(0, 1, 3)", x.entries(0, 1, 3), 0);
    }

    private static void usableIs(IntervalRouting x, int due) {
        String at = " at " + x.time();
        Check.due("entry(0, 1, 1, 5)" + at, x.entry(0, 1, 1, 5), due);
        Check.due("entries(0, 1, 1)" + at, x.entries(0, 1, 1), due);
        Check.due("choice(0, 1)" + at, x.choice(0, 1), due == 1 ? 1 : -4);
        Check.due("distance(0, 1, 0)" + at, x.distance(0, 1, 0), due == 1 ? 1 : -4);
        Check.due("follow(0, 1)" + at, x.follow(0, 1), due == 1 ? 1 : -2000);
    }

    private static void usableUpToTheExpiry() {
        Check.sentence("Tables", "It is usable at tick t if its expiry is at least t");
        IntervalRouting x = Nets.row(2, 1, 2);
        x.set(0, 20);
        x.set(1, 5);
        x.run(19);
        usableIs(x, 1);
        x.run(4);
        usableIs(x, 1);
        x.run(1);
        Check.due("entry(0, 1, 1, 2)", x.entry(0, 1, 1, 2), 24);
        usableIs(x, 1);
        x.run(1);
        usableIs(x, 0);
        Check.due("entries(0, 1, 0), it stays", x.entries(0, 1, 0), 1);
    }

    private static void usableBelowInfinity() {
        Check.sentence("Tables", "its upper bound is below infinity");
        IntervalRouting x = Nets.row(2, 1, 300);
        x.run(1);
        int[][] due = {{299, 0}, {300, 0}, {301, 1}, {30000, 1}, {100, 0}, {4000, 1}};
        for (int[] d : due) {
            x.set(6, d[0]);
            usableIs(x, d[1]);
        }
    }

    private static void usableAfterTheHold() {
        Check.sentence("Tables", "t is greater than the tick up to which it is held");
        IntervalRouting x = Nets.row(2, 1, 1);
        x.set(8, 1);
        x.set(9, 3);
        x.run(1);
        Nets.relink(x, 1, 2);
        x.run(1);
        Check.due("entry(0, 1, 1, 4)", x.entry(0, 1, 1, 4), 5);
        int[] due = {0, 0, 0, 0, 1, 1};
        for (int tick = 2; tick <= 7; tick++) {
            usableIs(x, due[tick - 2]);
            x.run(1);
        }
    }

    private static void usableFromANeighbour() {
        Check.sentence("Tables", "and the sender is a neighbour");
        IntervalRouting x = Nets.row(2, 1, 2);
        x.run(1);
        usableIs(x, 1);
        x.setUp(0, 1, 0);
        usableIs(x, 0);
        x.setUp(0, 1, 1);
        usableIs(x, 1);
        x.removeLink(0, 1);
        usableIs(x, 0);
        x.addLink(0, 1, 5, 5);
        usableIs(x, 1);
    }

    private static void distanceOfOneEntry() {
        Check.sentence("Tables", "The distance of a node to a target at tick t is the interval");
        IntervalRouting x = new IntervalRouting();
        x.addLink(0, 1, 3, 7);
        x.addLink(1, 2, 20, 50);
        x.set(0, 1);
        Check.due("distance(0, 1, 0), nothing is told yet", x.distance(0, 1, 0), -4);
        x.run(2);
        Check.due("distance(0, 1, 0)", x.distance(0, 1, 0), 3);
        Check.due("distance(0, 1, 1)", x.distance(0, 1, 1), 7);
        Check.due("distance(2, 0, 0)", x.distance(2, 0, 0), 23);
        Check.due("distance(2, 0, 1)", x.distance(2, 0, 1), 57);
        Check.due("distance(0, 3, 1)", x.distance(0, 3, 1), -4);
    }

    private static void distanceOfSeveralEntries() {
        Check.sentence("Tables", "(these may belong to different entries)");
        IntervalRouting x = Nets.fork(bounds(5, 20), bounds(10, 18), bounds(112, 119));
        Check.due("distance(0, 3, 0), via 1", x.distance(0, 3, 0), 105);
        Check.due("distance(0, 3, 1), via 2", x.distance(0, 3, 1), 118);
        IntervalRouting y = Nets.fork(bounds(9, 18), bounds(10, 20), bounds(104, 190));
        Check.due("distance(0, 3, 0), via 3", y.distance(0, 3, 0), 104);
        Check.due("distance(0, 3, 1), via 1", y.distance(0, 3, 1), 118);
    }

    private static void distanceOfTheUsableOnes() {
        Check.sentence("Tables", "of all its usable entries for this target");
        IntervalRouting x = Nets.fork(bounds(5, 20), bounds(10, 18), bounds(112, 119));
        x.setUp(0, 1, 0);
        Check.due("distance(0, 3, 0) without 1", x.distance(0, 3, 0), 110);
        x.setUp(0, 2, 0);
        Check.due("distance(0, 3, 0) without 1 and 2", x.distance(0, 3, 0), 112);
        Check.due("distance(0, 3, 1) without 1 and 2", x.distance(0, 3, 1), 119);
        x.setUp(0, 1, 1);
        x.set(6, 120);
        Check.due("distance(0, 3, 0), via 1 is at infinity", x.distance(0, 3, 0), 112);
    }

    private static void distanceToItself() {
        Check.sentence("Tables", "that to itself is from 0 to 0");
        IntervalRouting x = Nets.full();
        for (int node = 0; node < 8; node++) {
            Check.due("distance(" + node + ", " + node + ", 0) at 0", x.distance(node, node, 0), 0);
            Check.due("distance(" + node + ", " + node + ", 1) at 0", x.distance(node, node, 1), 0);
        }
        x.run(3);
        for (int node = 0; node < 8; node++) {
            Check.due("distance(" + node + ", " + node + ", 0) at 3", x.distance(node, node, 0), 0);
            Check.due("distance(" + node + ", " + node + ", 1) at 3", x.distance(node, node, 1), 0);
        }
    }

    private static void unreachable() {
        Check.sentence("Tables", "If there is no usable entry, the target is unreachable.");
        IntervalRouting x = Nets.fork(bounds(5, 20), bounds(10, 18), bounds(112, 119));
        x.setUp(0, 1, 0);
        x.setUp(0, 2, 0);
        x.removeLink(0, 3);
        Check.due("entries(0, 3, 0)", x.entries(0, 3, 0), 3);
        Check.due("distance(0, 3, 0)", x.distance(0, 3, 0), -4);
        Check.due("distance(0, 3, 1)", x.distance(0, 3, 1), -4);
        Check.due("distance(3, 1, 1)", x.distance(3, 1, 1), 20);
    }

    /** The choice of node 0 for node 3 by each rule; each rule is set after and before each other one. */
    private static void choices(int[] one, int[] two, int[] three, int[] due) {
        IntervalRouting x = Nets.fork(one, two, three);
        for (int rule : new int[] {2, 0, 1, 2, 1, 0}) {
            x.set(2, rule);
            Check.due("choice(0, 3) by rule " + rule + " of " + one[0] + "-" + one[1] + ", " + two[0] + "-"
                + two[1] + ", " + three[0] + "-" + three[1], x.choice(0, 3), due[rule]);
        }
    }

    private static void worstCase() {
        Check.sentence("Tables", "by rule 0 (worst case) the one with the least upper bound");
        choices(bounds(5, 20), bounds(10, 18), bounds(112, 119), new int[] {2, 1, 1});
        choices(bounds(1, 60), bounds(20, 30), bounds(110, 125), new int[] {3, 3, 1});
        choices(bounds(1, 24), bounds(20, 30), bounds(110, 125), new int[] {1, 1, 1});
    }

    private static void worstCaseEqual() {
        Check.sentence("Tables", "the one with the least upper bound, of several that with the least lower bound");
        choices(bounds(15, 20), bounds(10, 20), bounds(112, 120), new int[] {2, 2, 2});
        choices(bounds(15, 20), bounds(14, 20), bounds(113, 120), new int[] {3, 3, 3});
        choices(bounds(9, 20), bounds(10, 20), bounds(111, 120), new int[] {1, 1, 1});
    }

    private static void regret() {
        Check.sentence("Tables", "its upper bound minus the least lower bound of the other usable entries");
        choices(bounds(5, 30), bounds(10, 16), bounds(112, 119), new int[] {2, 2, 1});
        // Regrets 20, 30 - 5 and 31 - 5: the other ones' lower bounds count, not the own one.
        choices(bounds(5, 30), bounds(10, 30), bounds(110, 131), new int[] {1, 1, 1});
        // Regrets 22 - 10 and 20 - 1: another one than by the least upper bound.
        choices(bounds(1, 22), bounds(10, 20), bounds(110, 140), new int[] {2, 1, 1});
        // Regrets 1 and 0.
        choices(bounds(10, 10), bounds(9, 10), bounds(120, 140), new int[] {2, 2, 2});
    }

    private static void regretOfUsableOnes() {
        Check.sentence("Tables", "the least lower bound of the other usable entries for this target");
        // Regrets 124 - 101, 120 - 101 and 140 - 105; without via 3, 124 - 110 and 120 - 105.
        IntervalRouting x = Nets.fork(bounds(5, 24), bounds(10, 20), bounds(101, 140));
        x.set(2, 1);
        Check.due("choice(0, 3)", x.choice(0, 3), 2);
        x.setUp(0, 3, 0);
        Check.due("choice(0, 3), via 3 is not usable", x.choice(0, 3), 1);
    }

    private static void regretEqual() {
        Check.sentence("Tables", "(0 if there are no others), of several that with the least upper bound");
        // Regrets 25 - 10 and 20 - 5.
        choices(bounds(5, 25), bounds(10, 20), bounds(120, 140), new int[] {2, 2, 1});
        choices(bounds(10, 20), bounds(5, 25), bounds(120, 140), new int[] {1, 1, 2});
        // Regrets 15, 15 and 20, upper bounds 20, 20 and 30: the sender decides, not the lower bound.
        choices(bounds(12, 20), bounds(10, 20), bounds(105, 130), new int[] {2, 1, 3});
        choices(bounds(10, 20), bounds(12, 20), bounds(105, 130), new int[] {1, 1, 3});
    }

    private static void regretOfOneEntry() {
        Check.sentence("Tables", "but at least 0 (0 if there are no others)");
        for (int rule = 0; rule <= 2; rule++) {
            IntervalRouting x = Nets.row(2, 500, 500);
            x.set(2, rule);
            x.run(1);
            Check.due("choice(0, 1), no others", x.choice(0, 1), 1);
            Check.due("choice(1, 0), no others", x.choice(1, 0), 0);
        }
        // The first one's regret would be 10 - 50; the other ones' are above 0.
        choices(bounds(5, 10), bounds(50, 60), bounds(170, 180), new int[] {1, 1, 1});
        choices(bounds(50, 60), bounds(70, 80), bounds(105, 110), new int[] {3, 3, 3});
    }

    private static void bestCase() {
        Check.sentence("Tables", "by rule 2 (best case) the one with the least lower bound");
        choices(bounds(5, 500), bounds(10, 11), bounds(112, 119), new int[] {2, 2, 1});
        choices(bounds(10, 11), bounds(12, 13), bounds(109, 500), new int[] {1, 1, 3});
    }

    private static void bestCaseEqual() {
        Check.sentence("Tables", "the one with the least lower bound, of several that with the least upper bound");
        choices(bounds(10, 30), bounds(10, 20), bounds(110, 125), new int[] {2, 2, 2});
        choices(bounds(10, 30), bounds(10, 31), bounds(110, 129), new int[] {3, 3, 3});
    }

    private static void lowestSender() {
        Check.sentence("Tables", "of those that are still equal, the sender with the lowest number");
        choices(bounds(10, 20), bounds(10, 20), bounds(110, 120), new int[] {1, 1, 1});
        choices(bounds(30, 40), bounds(10, 20), bounds(110, 120), new int[] {2, 2, 2});
        choices(bounds(10, 10), bounds(10, 10), bounds(110, 110), new int[] {1, 1, 1});
        choices(bounds(11, 11), bounds(10, 10), bounds(110, 110), new int[] {2, 2, 2});
    }

    private static void noChoice() {
        Check.sentence("Tables", "There is no choice if there is no usable entry.");
        for (int rule = 0; rule <= 2; rule++) {
            IntervalRouting x = Nets.fork(bounds(5, 20), bounds(10, 18), bounds(112, 119));
            x.set(2, rule);
            x.set(6, 100);
            Check.due("choice(0, 3), all at infinity", x.choice(0, 3), -4);
            x.set(6, 119);
            Check.due("choice(0, 3), via 2 below infinity", x.choice(0, 3), 2);
            x.setUp(2, 0, 0);
            Check.due("choice(0, 3), none", x.choice(0, 3), -4);
        }
    }

    private static void domination(int[] one, int[] two, int[] three, int[] due) {
        IntervalRouting x = Nets.fork(one, two, three);
        int sum = 0;
        for (int sender = 1; sender <= 3; sender++) {
            Check.due("entry(0, 3, " + sender + ", 6) of " + one[0] + "-" + one[1] + ", " + two[0] + "-"
                + two[1] + ", " + three[0] + "-" + three[1], x.entry(0, 3, sender, 6), due[sender - 1]);
            sum += due[sender - 1];
        }
        Check.due("entries(0, 3, 2)", x.entries(0, 3, 2), sum);
        Check.due("entries(0, 3, 1)", x.entries(0, 3, 1), 3);
    }

    private static void dominated() {
        Check.sentence("Tables", "An entry is dominated if it is usable and there is another usable entry");
        domination(bounds(5, 8), bounds(10, 15), bounds(107, 119), new int[] {0, 1, 0});
        domination(bounds(40, 50), bounds(30, 35), bounds(110, 120), new int[] {1, 1, 0});
        domination(bounds(40, 50), bounds(5, 6), bounds(110, 120), new int[] {1, 0, 1});
    }

    private static void dominatedAtMost() {
        Check.sentence("Tables", "whose upper bound is at most the lower bound of this one");
        domination(bounds(5, 10), bounds(9, 15), bounds(107, 119), new int[] {0, 0, 0});
        domination(bounds(5, 10), bounds(10, 15), bounds(107, 119), new int[] {0, 1, 0});
        domination(bounds(5, 10), bounds(11, 15), bounds(107, 119), new int[] {0, 1, 0});
        domination(bounds(5, 30), bounds(9, 15), bounds(114, 119), new int[] {0, 0, 0});
        domination(bounds(5, 30), bounds(9, 15), bounds(115, 119), new int[] {0, 0, 1});
    }

    private static void notDominated() {
        Check.sentence("Tables", "there is another usable entry for the same target");
        domination(bounds(5, 20), bounds(10, 18), bounds(112, 119), new int[] {0, 0, 0});
        // A single point is not dominated by itself.
        domination(bounds(15, 15), bounds(10, 18), bounds(112, 119), new int[] {0, 0, 0});
        IntervalRouting x = Nets.row(2, 7, 7);
        x.run(1);
        Check.due("entry(0, 1, 1, 6), no other", x.entry(0, 1, 1, 6), 0);
    }

    private static void bothDominated() {
        Check.sentence("Tables", "only the one with the higher sender is");
        domination(bounds(10, 10), bounds(10, 10), bounds(109, 119), new int[] {0, 1, 0});
        domination(bounds(10, 10), bounds(10, 10), bounds(110, 110), new int[] {0, 1, 1});
        domination(bounds(10, 10), bounds(20, 20), bounds(110, 110), new int[] {0, 1, 1});
        domination(bounds(9, 19), bounds(10, 10), bounds(110, 110), new int[] {0, 0, 1});
        domination(bounds(10, 20), bounds(10, 20), bounds(110, 120), new int[] {0, 0, 0});
    }

    private static void onlyOneOfTwoPoints() {
        Check.sentence("Tables", "(if both are dominated by each other, which happens if all bounds are equal");
        // The point is dominated by what ends at it, also by a higher sender, and does not dominate it.
        domination(bounds(10, 10), bounds(5, 10), bounds(109, 119), new int[] {1, 0, 0});
        domination(bounds(5, 10), bounds(10, 10), bounds(109, 119), new int[] {0, 1, 0});
        // The point dominates what begins at it, also one with a lower sender, and is not dominated by it.
        domination(bounds(10, 12), bounds(10, 10), bounds(109, 119), new int[] {1, 0, 0});
        domination(bounds(10, 10), bounds(10, 12), bounds(109, 119), new int[] {0, 1, 0});
    }

    private static void dominatedIfUsable() {
        Check.sentence("Tables", "An entry is dominated if it is usable");
        IntervalRouting x = Nets.fork(bounds(5, 10), bounds(20, 30), bounds(140, 150));
        Check.due("entries(0, 3, 2)", x.entries(0, 3, 2), 2);
        x.setUp(0, 3, 0);
        Check.due("entry(0, 3, 3, 6), itself not usable", x.entry(0, 3, 3, 6), 0);
        Check.due("entry(0, 3, 2, 6)", x.entry(0, 3, 2, 6), 1);
        x.set(6, 130);
        Check.due("entry(0, 3, 2, 6), itself at infinity", x.entry(0, 3, 2, 6), 0);
        Check.due("entries(0, 3, 2)", x.entries(0, 3, 2), 0);
    }

    private static void dominatedByUsable() {
        Check.sentence("Tables", "another usable entry for the same target whose upper bound is at most");
        IntervalRouting x = Nets.fork(bounds(5, 10), bounds(20, 30), bounds(140, 150));
        x.setUp(0, 1, 0);
        Check.due("entries(0, 3, 2), via 1 is not usable", x.entries(0, 3, 2), 1);
        Check.due("entry(0, 3, 2, 6)", x.entry(0, 3, 2, 6), 0);
        Check.due("entry(0, 3, 3, 6)", x.entry(0, 3, 3, 6), 1);
        x.setUp(0, 2, 0);
        Check.due("entry(0, 3, 3, 6), the only usable one", x.entry(0, 3, 3, 6), 0);
    }

    private static void senderNought() {
        Check.sentence("Tables", "The choice of a node for a target is the sender of one of its usable entries");
        IntervalRouting x = new IntervalRouting();
        x.reset(3);
        x.set(0, 1);
        x.set(3, 0);
        x.addLink(0, 1, 1, 5);
        x.addLink(0, 2, 1, 5);
        x.addLink(1, 2, 20, 30);
        x.run(4);
        Check.due("entries(1, 2, 0)", x.entries(1, 2, 0), 2);
        Check.due("entries(1, 2, 1)", x.entries(1, 2, 1), 2);
        Check.due("entry(1, 2, 0, 1)", x.entry(1, 2, 0, 1), 10);
        Check.due("entry(1, 2, 2, 6)", x.entry(1, 2, 2, 6), 1);
        Check.due("entry(1, 2, 0, 6)", x.entry(1, 2, 0, 6), 0);
        Check.due("entries(1, 2, 2)", x.entries(1, 2, 2), 1);
        Check.due("choice(1, 2), sender 0 is one", x.choice(1, 2), 0);
    }

    private static void dominatedByTheSameTarget() {
        Check.sentence("Tables", "there is another usable entry for the same target");
        IntervalRouting x = star();
        for (int node = 1; node < 8; node++) {
            for (int target = 0; target < 8; target++) {
                // Node 0 alone is heard: other targets lie nearer, but this one has no other entry.
                Check.due("entries(" + node + ", " + target + ", 2)", x.entries(node, target, 2),
                    node == target ? -1 : 0);
            }
            Check.due("entries(0, " + node + ", 2), all but the direct one", x.entries(0, node, 2), 6);
            Check.due("entry(0, " + node + ", " + node + ", 6)", x.entry(0, node, node, 6), 0);
        }
    }

    private static void entryValues() {
        Check.sentence("Promise 12", "0: lower bound; 1: upper bound; 2: expiry; 3: growth counter");
        IntervalRouting x = Nets.fork(bounds(5, 20), bounds(10, 18), bounds(112, 119));
        int[][] due = {{105, 120, 19, 0, 0, 1, 0}, {110, 118, 19, 0, 0, 1, 0}, {112, 119, 19, 0, 0, 1, 0}};
        for (int sender = 1; sender <= 3; sender++) {
            for (int what = 0; what < 7; what++) {
                Check.due("entry(0, 3, " + sender + ", " + what + ")", x.entry(0, 3, sender, what),
                    due[sender - 1][what]);
            }
        }
    }

    private static void entryHeld() {
        Check.sentence("Promise 12", "4: the tick up to which it is held");
        IntervalRouting x = heldFrom2To12();
        Check.due("entry(0, 1, 1, 4)", x.entry(0, 1, 1, 4), 12);
        x.run(30);
        Check.due("entry(0, 1, 1, 4), long after", x.entry(0, 1, 1, 4), 12);
    }

    private static void entryUsable() {
        Check.sentence("Promise 12", "5: 1 if it is usable, else 0");
        IntervalRouting x = Nets.fork(bounds(5, 20), bounds(10, 18), bounds(112, 119));
        x.set(6, 120);
        int[] due = {0, 1, 1};
        for (int sender = 1; sender <= 3; sender++) {
            Check.due("entry(0, 3, " + sender + ", 5)", x.entry(0, 3, sender, 5), due[sender - 1]);
        }
    }

    private static void entryDominated() {
        Check.sentence("Promise 12", "6: 1 if it is dominated, else 0");
        IntervalRouting x = Nets.fork(bounds(5, 10), bounds(20, 30), bounds(110, 150));
        int[] due = {0, 1, 1};
        for (int sender = 1; sender <= 3; sender++) {
            Check.due("entry(0, 3, " + sender + ", 6)", x.entry(0, 3, sender, 6), due[sender - 1]);
        }
    }

    private static void entryOutOfRange() {
        Check.sentence("Promise 12", "INVALID_ARGUMENT if an argument is out of range");
        IntervalRouting x = Nets.fork(bounds(5, 20), bounds(10, 18), bounds(112, 119));
        for (int none : NO_NODES) {
            Check.due("entry(" + none + ", 3, 1, 0)", x.entry(none, 3, 1, 0), -1);
            Check.due("entry(0, " + none + ", 1, 0)", x.entry(0, none, 1, 0), -1);
            Check.due("entry(0, 3, " + none + ", 0)", x.entry(0, 3, none, 0), -1);
        }
        for (int what : new int[] {-1, 7, MIN, MAX}) {
            Check.due("entry(0, 3, 1, " + what + ")", x.entry(0, 3, 1, what), -1);
            Check.due("entry(1, 3, 2, " + what + "), no entry", x.entry(1, 3, 2, what), -1);
        }
    }

    private static void entryOfItself() {
        Check.sentence("Promise 12", "or target or sender is node");
        IntervalRouting x = Nets.full();
        x.run(3);
        for (int node = 0; node < 8; node++) {
            int other = (node + 1) % 8;
            Check.due("entry(" + node + ", " + node + ", " + other + ", 0)", x.entry(node, node, other, 0), -1);
            Check.due("entry(" + node + ", " + other + ", " + node + ", 0)", x.entry(node, other, node, 0), -1);
            Check.due("entry(" + node + ", " + node + ", " + node + ", 0)", x.entry(node, node, node, 0), -1);
        }
    }

    private static void entryOfTheTarget() {
        Check.sentence("Promise 12", "`sender`: number of another node than node");
        IntervalRouting x = Nets.row(2, 1, 2);
        x.run(1);
        Check.due("entry(0, 1, 1, 1), the target itself is the sender", x.entry(0, 1, 1, 1), 2);
        Check.due("entry(1, 0, 0, 1), the target itself is the sender", x.entry(1, 0, 0, 1), 2);
    }

    private static void entryWhereNoneIs() {
        Check.sentence("Promise 12", "NOT_FOUND if there is no such entry");
        IntervalRouting x = Nets.row(3, 1, 2);
        for (int what = 0; what < 7; what++) {
            Check.due("entry(0, 1, 1, " + what + ") at 0", x.entry(0, 1, 1, what), -4);
        }
        x.run(5);
        for (int what = 0; what < 7; what++) {
            Check.due("entry(0, 1, 2, " + what + "), no neighbour", x.entry(0, 1, 2, what), -4);
            Check.due("entry(0, 2, 2, " + what + "), no neighbour", x.entry(0, 2, 2, what), -4);
        }
        x.setUp(0, 1, 0);
        x.run(50);
        Check.due("entry(0, 1, 1, 0), long expired", x.entry(0, 1, 1, 0), 1);
    }

    private static void distanceBounds() {
        Check.sentence("Promise 13", "0: its lower bound; 1: its upper bound");
        IntervalRouting x = Nets.row(2, 1, 500);
        x.run(1);
        Check.due("distance(0, 1, 0)", x.distance(0, 1, 0), 1);
        Check.due("distance(0, 1, 1)", x.distance(0, 1, 1), 500);
    }

    private static void distanceOutOfRange() {
        Check.sentence("Promise 13", "INVALID_ARGUMENT if an argument is out of range");
        IntervalRouting x = Nets.fork(bounds(5, 20), bounds(10, 18), bounds(112, 119));
        for (int none : NO_NODES) {
            Check.due("distance(" + none + ", 0, 0)", x.distance(none, 0, 0), -1);
            Check.due("distance(0, " + none + ", 0)", x.distance(0, none, 0), -1);
            Check.due("distance(" + none + ", " + none + ", 0)", x.distance(none, none, 0), -1);
        }
        x.setUp(0, 3, 0);
        for (int what : new int[] {-1, 2, MIN, MAX}) {
            Check.due("distance(0, 1, " + what + ")", x.distance(0, 1, what), -1);
            Check.due("distance(0, 0, " + what + ")", x.distance(0, 0, what), -1);
            Check.due("distance(3, 0, " + what + ")", x.distance(3, 0, what), -1);
        }
    }

    private static void distanceWhereNoneIs() {
        Check.sentence("Promise 13", "NOT_FOUND if the target is unreachable");
        IntervalRouting x = new IntervalRouting();
        for (int what = 0; what < 2; what++) {
            Check.due("distance(0, 3, " + what + ")", x.distance(0, 3, what), -4);
            Check.due("distance(3, 3, " + what + "), itself", x.distance(3, 3, what), 0);
        }
    }

    private static void choiceOutOfRange() {
        Check.sentence("Promise 14", "INVALID_ARGUMENT if there is no such node or both are the same");
        IntervalRouting x = Nets.fork(bounds(5, 20), bounds(10, 18), bounds(112, 119));
        for (int none : NO_NODES) {
            Check.due("choice(" + none + ", 0)", x.choice(none, 0), -1);
            Check.due("choice(0, " + none + ")", x.choice(0, none), -1);
        }
        for (int node = 0; node < 4; node++) {
            Check.due("choice(" + node + ", " + node + ")", x.choice(node, node), -1);
        }
    }

    private static void choiceWhereNoneIs() {
        Check.sentence("Promise 14", "NOT_FOUND if there is no choice");
        IntervalRouting x = Nets.row(2, 10, 20);
        Check.due("choice(0, 1) at 0", x.choice(0, 1), -4);
        x.set(0, 4);
        x.run(3);
        Check.due("choice(0, 1) at 3, node 1 has sent", x.choice(0, 1), 1);
        Check.due("choice(1, 0) at 3", x.choice(1, 0), -4);
        x.run(1);
        Check.due("choice(1, 0) at 4, node 0 has sent", x.choice(1, 0), 0);
    }

    private static void allEntries() {
        Check.sentence("Promise 15", "0: all entries");
        IntervalRouting x = Nets.fork(bounds(5, 10), bounds(20, 30), bounds(140, 150));
        Check.due("entries(0, 3, 0)", x.entries(0, 3, 0), 3);
        x.setUp(0, 2, 0);
        Check.due("entries(0, 3, 0), one is not usable", x.entries(0, 3, 0), 3);
        x.setUp(0, 1, 0);
        x.setUp(0, 3, 0);
        x.run(100);
        Check.due("entries(0, 3, 0), expired ones too", x.entries(0, 3, 0), 3);
        Check.due("entries(0, 3, 0) of a new object", new IntervalRouting().entries(0, 3, 0), 0);
    }

    private static void usableEntries() {
        Check.sentence("Promise 15", "1: usable ones");
        IntervalRouting x = Nets.fork(bounds(5, 10), bounds(20, 30), bounds(140, 150));
        Check.due("entries(0, 3, 1)", x.entries(0, 3, 1), 3);
        x.setUp(0, 2, 0);
        Check.due("entries(0, 3, 1)", x.entries(0, 3, 1), 2);
        x.set(6, 150);
        Check.due("entries(0, 3, 1), one is at infinity", x.entries(0, 3, 1), 1);
        x.set(6, 151);
        Check.due("entries(0, 3, 1), infinity is above", x.entries(0, 3, 1), 2);
        x.setUp(0, 1, 0);
        x.setUp(0, 3, 0);
        Check.due("entries(0, 3, 1), none", x.entries(0, 3, 1), 0);
    }

    private static void dominatedEntries() {
        Check.sentence("Promise 15", "2: dominated ones");
        Check.due("entries(0, 3, 2), all but one",
            Nets.fork(bounds(5, 10), bounds(20, 30), bounds(140, 150)).entries(0, 3, 2), 2);
        Check.due("entries(0, 3, 2), none",
            Nets.fork(bounds(5, 30), bounds(20, 30), bounds(120, 150)).entries(0, 3, 2), 0);
        Check.due("entries(0, 3, 2) of a new object", new IntervalRouting().entries(0, 3, 2), 0);
    }

    private static IntervalRouting heldFrom2To12() {
        IntervalRouting x = Nets.row(2, 1, 1);
        x.set(1, 2);
        x.set(8, 1);
        x.set(9, 10);
        x.run(1);
        Nets.relink(x, 2, 2);
        x.run(1);
        return x;
    }

    private static void heldEntries() {
        Check.sentence("Promise 15", "3: those that are held now");
        IntervalRouting x = heldFrom2To12();
        Check.due("entries(0, 1, 3) at 2", x.entries(0, 1, 3), 1);
        x.run(10);
        Check.due("entries(0, 1, 3) at 12", x.entries(0, 1, 3), 1);
        Check.due("entries(0, 1, 1) at 12", x.entries(0, 1, 1), 0);
        x.run(1);
        Check.due("entries(0, 1, 3) at 13", x.entries(0, 1, 3), 0);
        Check.due("entries(0, 1, 1) at 13", x.entries(0, 1, 1), 1);
    }

    private static void heldThoughExpired() {
        Check.sentence("Promise 15", "3: those that are held now");
        IntervalRouting x = heldFrom2To12();
        x.setUp(0, 1, 0);
        x.run(10);
        Check.due("entry(0, 1, 1, 2)", x.entry(0, 1, 1, 2), 4);
        Check.due("entry(0, 1, 1, 4)", x.entry(0, 1, 1, 4), 12);
        Check.due("entries(0, 1, 3) at 12", x.entries(0, 1, 3), 1);
        x.run(1);
        Check.due("entries(0, 1, 3) at 13", x.entries(0, 1, 3), 0);
        Check.due("entries(0, 1, 0) at 13", x.entries(0, 1, 0), 1);
    }

    private static void entriesOutOfRange() {
        Check.sentence("Promise 15", "INVALID_ARGUMENT if an argument is out of range or both nodes are the same");
        IntervalRouting x = Nets.fork(bounds(5, 20), bounds(10, 18), bounds(112, 119));
        for (int none : NO_NODES) {
            Check.due("entries(" + none + ", 0, 0)", x.entries(none, 0, 0), -1);
            Check.due("entries(0, " + none + ", 0)", x.entries(0, none, 0), -1);
        }
        for (int what : new int[] {-1, 4, MIN, MAX}) {
            Check.due("entries(0, 1, " + what + ")", x.entries(0, 1, what), -1);
        }
        for (int what = 0; what < 4; what++) {
            Check.due("entries(1, 1, " + what + ")", x.entries(1, 1, what), -1);
        }
    }

    private static void width(IntervalRouting x, int sum, int pairs) {
        Check.due("meanWidthBits() of " + sum + " by " + pairs, x.meanWidthBits(),
            Float.floatToIntBits((float) sum / (float) pairs));
    }

    private static void noPair() {
        Check.sentence("Promise 16", "NOT_FOUND if there is no such pair");
        IntervalRouting x = new IntervalRouting();
        Check.due("meanWidthBits()", x.meanWidthBits(), -4);
        x.set(0, 1);
        x.addLink(0, 1, 4, 9);
        Check.due("meanWidthBits(), none is reachable yet", x.meanWidthBits(), -4);
        x.run(1);
        width(x, 10, 2);
        x.setUp(0, 1, 0);
        Check.due("meanWidthBits(), none is reachable any more", x.meanWidthBits(), -4);
    }

    private static void onePair() {
        Check.sentence("Promise 16", "of a node and another node that is reachable for it");
        for (int upper : new int[] {1, 2, 3, 8, 500}) {
            IntervalRouting x = Nets.row(2, 1, upper);
            x.set(0, 2);
            x.run(1);
            // Node 1 has sent at 1, node 0 has not.
            width(x, upper - 1, 1);
        }
    }

    private static void widthNought() {
        Check.sentence("Promise 16", "the mean width (upper bound minus lower bound)");
        IntervalRouting x = Nets.row(3, 4, 4);
        x.run(3);
        Check.due("meanWidthBits(), all are points", x.meanWidthBits(), 0);
    }

    private static void meansOfManyPairs() {
        Check.sentence("Promise 16", "the sum of the widths, as float, divided by their number, as float");
        IntervalRouting x = Nets.row(8, 7, 7);
        x.removeLink(3, 4);
        x.addLink(3, 4, 7, 8);
        x.run(1);
        width(x, 2, 14);
        x.run(1);
        width(x, 6, 26);
        x.run(6);
        width(x, 32, 56);
        x.removeLink(3, 4);
        x.addLink(3, 4, 1, 500);
        x.run(6);
        width(x, 32 * 499, 56);
        IntervalRouting y = Nets.row(8, 1, 500);
        y.run(8);
        // 84 links in one direction on the ways of all pairs.
        width(y, 2 * 84 * 499, 56);
    }

    private static void meansBelowAndAboveOne() {
        Check.sentence("Promise 16", "Returns the bits of the float, as Float.floatToIntBits gives them");
        for (int upper = 1; upper <= 500; upper++) {
            IntervalRouting x = Nets.row(3, 1, upper);
            x.removeLink(1, 2);
            x.addLink(1, 2, 1, 1);
            x.addLink(0, 2, 500, 500);
            x.run(4);
            // Between 0 and 2 the least upper bound is that of the direct link, if all others are above 500.
            width(x, 2 * ((upper - 1) + Math.min(upper - 1, 498)), 6);
        }
    }
}
