/** Promises 12 to 16: entry, distance, choice, entries and meanWidthBits. */
public final class TablesTest {
    private static final int MIN = Integer.MIN_VALUE;
    private static final int MAX = Integer.MAX_VALUE;

    public static void main(String[] args) {
        entryAnswers();
        wrongArguments();
        distanceAnswers();
        distanceOfSeveralEntries();
        choiceByRules();
        choiceOfOneEntry();
        dominated();
        onlyUsableOnesDominate();
        senderNought();
        entriesCounts();
        heldThoughExpired();
        meanWidth();
        settingsAndLinksCountAtOnce();
        Check.end();
    }

    /**
     * Node 0 hears of node 3 from 1 and 2, which lie 100 from it, and from 3 itself: via 1 and 2 the bounds
     * are 100 more than those given for them, via 3 they are as given.
     */
    private static IntervalRouting fork(int[] one, int[] two, int[] three) {
        IntervalRouting x = new IntervalRouting();
        x.set(0, 1);
        x.addLink(0, 1, 100, 100);
        x.addLink(0, 2, 100, 100);
        x.addLink(1, 3, one[0], one[1]);
        x.addLink(2, 3, two[0], two[1]);
        if (three != null) {
            x.addLink(0, 3, three[0], three[1]);
        }
        x.run(6);
        return x;
    }

    private static int[] bounds(int lower, int upper) {
        return new int[] {lower, upper};
    }

    private static void entryAnswers() {
        IntervalRouting x = fork(bounds(5, 20), bounds(10, 18), bounds(112, 119));
        int[][] due = {{105, 120}, {110, 118}, {112, 119}};
        for (int sender = 1; sender <= 3; sender++) {
            Check.due("entry(0, 3, " + sender + ", 0)", x.entry(0, 3, sender, 0), due[sender - 1][0]);
            Check.due("entry(0, 3, " + sender + ", 1)", x.entry(0, 3, sender, 1), due[sender - 1][1]);
            Check.due("entry(0, 3, " + sender + ", 2)", x.entry(0, 3, sender, 2), 19);
            Check.due("entry(0, 3, " + sender + ", 3)", x.entry(0, 3, sender, 3), 0);
            Check.due("entry(0, 3, " + sender + ", 4)", x.entry(0, 3, sender, 4), 0);
            Check.due("entry(0, 3, " + sender + ", 5)", x.entry(0, 3, sender, 5), 1);
            Check.due("entry(0, 3, " + sender + ", 6)", x.entry(0, 3, sender, 6), 0);
        }
        Check.due("entry(1, 3, 2, 0), no neighbour", x.entry(1, 3, 2, 0), -4);
        Check.due("entry(1, 3, 2, 6), no neighbour", x.entry(1, 3, 2, 6), -4);
    }

    private static void wrongArguments() {
        IntervalRouting x = fork(bounds(5, 20), bounds(10, 18), bounds(112, 119));
        int[][] entry = {{0, 0, 1, 0}, {0, 1, 0, 0}, {4, 1, 2, 0}, {0, 4, 1, 0}, {0, 1, 4, 0}, {-1, 1, 2, 0},
            {0, -1, 1, 0}, {0, 1, -1, 0}, {0, 3, 1, -1}, {0, 3, 1, 7}, {MIN, MAX, 1, 0}, {0, 3, MAX, 0},
            {0, 3, 1, MIN}, {1, 3, 2, 7}};
        for (int[] w : entry) {
            Check.due("entry(" + w[0] + ", " + w[1] + ", " + w[2] + ", " + w[3] + ")",
                x.entry(w[0], w[1], w[2], w[3]), -1);
        }
        int[][] three = {{4, 0, 0}, {0, 4, 0}, {-1, 0, 0}, {0, -1, 0}, {MIN, 0, 0}, {0, MAX, 0}};
        for (int[] w : three) {
            Check.due("distance(" + w[0] + ", " + w[1] + ", 0)", x.distance(w[0], w[1], 0), -1);
            Check.due("entries(" + w[0] + ", " + w[1] + ", 0)", x.entries(w[0], w[1], 0), -1);
            Check.due("choice(" + w[0] + ", " + w[1] + ")", x.choice(w[0], w[1]), -1);
        }
        for (int what : new int[] {-1, 2, MIN, MAX}) {
            Check.due("distance(0, 1, " + what + ")", x.distance(0, 1, what), -1);
            Check.due("distance(0, 0, " + what + ")", x.distance(0, 0, what), -1);
        }
        for (int what : new int[] {-1, 4, MIN, MAX}) {
            Check.due("entries(0, 1, " + what + ")", x.entries(0, 1, what), -1);
        }
        Check.due("entries(1, 1, 0)", x.entries(1, 1, 0), -1);
        Check.due("choice(1, 1)", x.choice(1, 1), -1);
    }

    private static void distanceAnswers() {
        IntervalRouting x = new IntervalRouting();
        Check.due("distance(3, 3, 0)", x.distance(3, 3, 0), 0);
        Check.due("distance(3, 3, 1)", x.distance(3, 3, 1), 0);
        Check.due("distance(0, 1, 0)", x.distance(0, 1, 0), -4);
        x.addLink(0, 1, 3, 7);
        x.addLink(1, 2, 20, 50);
        x.set(0, 1);
        Check.due("distance(0, 1, 0), nothing is told yet", x.distance(0, 1, 0), -4);
        x.run(2);
        Check.due("distance(0, 1, 0)", x.distance(0, 1, 0), 3);
        Check.due("distance(0, 1, 1)", x.distance(0, 1, 1), 7);
        Check.due("distance(2, 0, 0)", x.distance(2, 0, 0), 23);
        Check.due("distance(2, 0, 1)", x.distance(2, 0, 1), 57);
        Check.due("distance(0, 3, 1)", x.distance(0, 3, 1), -4);
        Check.due("distance(1, 1, 1)", x.distance(1, 1, 1), 0);
    }

    private static void distanceOfSeveralEntries() {
        IntervalRouting x = fork(bounds(5, 20), bounds(10, 18), bounds(112, 119));
        Check.due("distance(0, 3, 0), via 1", x.distance(0, 3, 0), 105);
        Check.due("distance(0, 3, 1), via 2", x.distance(0, 3, 1), 118);
        x.setUp(0, 1, 0);
        Check.due("distance(0, 3, 0) without 1", x.distance(0, 3, 0), 110);
        x.setUp(0, 2, 0);
        Check.due("distance(0, 3, 0) without 1 and 2", x.distance(0, 3, 0), 112);
        Check.due("distance(0, 3, 1) without 1 and 2", x.distance(0, 3, 1), 119);
        x.removeLink(0, 3);
        Check.due("distance(0, 3, 1) without all", x.distance(0, 3, 1), -4);
    }

    private static void choices(int[] one, int[] two, int[] three, int[] due) {
        IntervalRouting x = fork(one, two, three);
        for (int i = 2; i < 6; i++) {
            int rule = i % 3;
            x.set(2, rule);
            Check.due("choice(0, 3) by rule " + rule + " of " + one[0] + "-" + one[1] + ", " + two[0] + "-"
                + two[1] + ", " + three[0] + "-" + three[1], x.choice(0, 3), due[rule]);
        }
    }

    private static void choiceByRules() {
        choices(bounds(5, 20), bounds(10, 18), bounds(112, 119), new int[] {2, 1, 1});
        choices(bounds(5, 30), bounds(10, 16), bounds(112, 119), new int[] {2, 2, 1});
        choices(bounds(1, 60), bounds(20, 30), bounds(110, 125), new int[] {3, 3, 1});
        // Regrets 20, 30 - 5 and 31 - 5: the other ones' lower bounds count, not the own one.
        choices(bounds(5, 30), bounds(10, 30), bounds(110, 131), new int[] {1, 1, 1});
        // Equal upper bounds: the lower bound decides by rule 0, not the sender.
        choices(bounds(15, 20), bounds(10, 20), bounds(112, 120), new int[] {2, 2, 2});
        // Equal lower bounds: the upper bound decides by rule 2.
        choices(bounds(10, 30), bounds(10, 20), bounds(110, 125), new int[] {2, 2, 2});
        // Equal regrets, 25 - 10 and 20 - 5: the upper bound decides.
        choices(bounds(5, 25), bounds(10, 20), bounds(120, 140), new int[] {2, 2, 1});
        // All equal: the lowest sender.
        choices(bounds(10, 20), bounds(10, 20), bounds(110, 120), new int[] {1, 1, 1});
        choices(bounds(30, 40), bounds(10, 20), bounds(110, 120), new int[] {2, 2, 2});
        choices(bounds(10, 10), bounds(10, 10), bounds(110, 110), new int[] {1, 1, 1});
        // Regrets 1 and 0.
        choices(bounds(10, 10), bounds(9, 10), bounds(120, 140), new int[] {2, 2, 2});
    }

    private static void choiceOfOneEntry() {
        for (int rule = 0; rule <= 2; rule++) {
            IntervalRouting x = new IntervalRouting();
            x.reset(2);
            x.set(2, rule);
            Check.due("choice(0, 1)", x.choice(0, 1), -4);
            x.addLink(0, 1, 10, 20);
            x.run(3);
            Check.due("choice(0, 1)", x.choice(0, 1), 1);
            Check.due("choice(1, 0)", x.choice(1, 0), -4);
            x.run(1);
            Check.due("choice(1, 0)", x.choice(1, 0), 0);
        }
    }

    private static void domination(int[] one, int[] two, int[] three, int[] due) {
        IntervalRouting x = fork(one, two, three);
        int sum = 0;
        for (int sender = 1; sender <= 3; sender++) {
            Check.due("entry(0, 3, " + sender + ", 6) of " + one[0] + "-" + one[1] + ", " + two[0] + "-"
                + two[1] + ", " + three[0] + "-" + three[1], x.entry(0, 3, sender, 6), due[sender - 1]);
            sum += due[sender - 1];
        }
        Check.due("entries(0, 3, 2)", x.entries(0, 3, 2), sum);
        Check.due("entries(0, 3, 1)", x.entries(0, 3, 1), 3);
    }

    private static void dominated() {
        domination(bounds(5, 20), bounds(10, 18), bounds(112, 119), new int[] {0, 0, 0});
        domination(bounds(5, 10), bounds(10, 15), bounds(109, 119), new int[] {0, 1, 0});
        domination(bounds(5, 10), bounds(9, 15), bounds(110, 110), new int[] {0, 0, 1});
        domination(bounds(40, 50), bounds(30, 40), bounds(110, 120), new int[] {1, 1, 0});
        // An upper bound that is the lower bound of one with a lower sender.
        domination(bounds(10, 12), bounds(10, 10), bounds(109, 119), new int[] {1, 0, 0});
        // Both by each other: only the higher sender.
        domination(bounds(10, 10), bounds(10, 10), bounds(109, 119), new int[] {0, 1, 0});
        domination(bounds(10, 10), bounds(10, 10), bounds(110, 110), new int[] {0, 1, 1});
        domination(bounds(10, 20), bounds(10, 20), bounds(110, 120), new int[] {0, 0, 0});
    }

    private static void onlyUsableOnesDominate() {
        IntervalRouting x = fork(bounds(5, 10), bounds(20, 30), bounds(140, 150));
        Check.due("entries(0, 3, 2)", x.entries(0, 3, 2), 2);
        x.setUp(0, 1, 0);
        Check.due("entries(0, 3, 2), one is not usable", x.entries(0, 3, 2), 1);
        Check.due("entry(0, 3, 2, 6)", x.entry(0, 3, 2, 6), 0);
        Check.due("entry(0, 3, 3, 6)", x.entry(0, 3, 3, 6), 1);
        x.setUp(0, 1, 1);
        x.setUp(0, 3, 0);
        Check.due("entry(0, 3, 3, 6), itself not usable", x.entry(0, 3, 3, 6), 0);
        Check.due("entry(0, 3, 2, 6)", x.entry(0, 3, 2, 6), 1);
    }

    private static void senderNought() {
        IntervalRouting x = new IntervalRouting();
        x.reset(3);
        x.set(0, 1);
        x.set(3, 0);
        x.addLink(0, 1, 1, 5);
        x.addLink(0, 2, 1, 5);
        x.addLink(1, 2, 20, 30);
        x.run(4);
        Check.due("entries(1, 2, 0)", x.entries(1, 2, 0), 2);
        Check.due("entries(1, 2, 1)", x.entries(1, 2, 1), 2);
        Check.due("entry(1, 2, 0, 1)", x.entry(1, 2, 0, 1), 10);
        Check.due("entry(1, 2, 2, 6)", x.entry(1, 2, 2, 6), 1);
        Check.due("entry(1, 2, 0, 6)", x.entry(1, 2, 0, 6), 0);
        Check.due("entries(1, 2, 2)", x.entries(1, 2, 2), 1);
        Check.due("choice(1, 2)", x.choice(1, 2), 0);
    }

    private static void entriesCounts() {
        IntervalRouting x = fork(bounds(5, 10), bounds(20, 30), bounds(140, 150));
        Check.due("entries(0, 3, 0)", x.entries(0, 3, 0), 3);
        Check.due("entries(0, 3, 1)", x.entries(0, 3, 1), 3);
        Check.due("entries(0, 3, 3)", x.entries(0, 3, 3), 0);
        x.setUp(0, 2, 0);
        Check.due("entries(0, 3, 0)", x.entries(0, 3, 0), 3);
        Check.due("entries(0, 3, 1)", x.entries(0, 3, 1), 2);
        x.set(6, 150);
        Check.due("entries(0, 3, 1), one is at infinity", x.entries(0, 3, 1), 1);
        x.set(6, 151);
        Check.due("entries(0, 3, 1), infinity is above", x.entries(0, 3, 1), 2);
        x.setUp(0, 1, 0);
        x.setUp(0, 3, 0);
        x.run(100);
        Check.due("entries(0, 3, 0), expired ones too", x.entries(0, 3, 0), 3);
        Check.due("entries(0, 3, 1), expired", x.entries(0, 3, 1), 0);
    }

    private static void heldThoughExpired() {
        IntervalRouting x = new IntervalRouting();
        x.reset(2);
        x.set(0, 1);
        x.set(1, 2);
        x.set(8, 1);
        x.set(9, 10);
        x.addLink(0, 1, 1, 1);
        x.run(1);
        x.removeLink(0, 1);
        x.addLink(0, 1, 2, 2);
        x.run(1);
        x.setUp(0, 1, 0);
        x.run(10);
        Check.due("entry(0, 1, 1, 2)", x.entry(0, 1, 1, 2), 4);
        Check.due("entry(0, 1, 1, 4)", x.entry(0, 1, 1, 4), 12);
        Check.due("entries(0, 1, 3) at 12", x.entries(0, 1, 3), 1);
        x.run(1);
        Check.due("entries(0, 1, 3) at 13", x.entries(0, 1, 3), 0);
        Check.due("entries(0, 1, 0) at 13", x.entries(0, 1, 0), 1);
    }

    private static void width(IntervalRouting x, int sum, int pairs) {
        Check.due("meanWidthBits() of " + sum + " by " + pairs, x.meanWidthBits(),
            Float.floatToIntBits((float) sum / (float) pairs));
    }

    private static void meanWidth() {
        IntervalRouting x = new IntervalRouting();
        Check.due("meanWidthBits()", x.meanWidthBits(), -4);
        x.set(0, 1);
        x.addLink(0, 1, 4, 4);
        Check.due("meanWidthBits(), none is reachable yet", x.meanWidthBits(), -4);
        x.run(3);
        width(x, 0, 2);
        x.addLink(1, 2, 1, 2);
        x.run(3);
        width(x, 4, 6);
        x.addLink(2, 3, 1, 500);
        x.run(3);
        width(x, 2 * (1 + 499 + 1 + 500 + 500), 12);
        IntervalRouting y = new IntervalRouting();
        y.reset(8);
        y.set(0, 1);
        for (int i = 0; i < 7; i++) {
            y.addLink(i, i + 1, 7, i == 3 ? 8 : 7);
        }
        y.run(1);
        width(y, 2, 14);
        y.run(1);
        width(y, 6, 26);
        y.run(6);
        width(y, 32, 56);
        y.removeLink(3, 4);
        y.addLink(3, 4, 1, 500);
        y.run(6);
        width(y, 32 * 499, 56);
        // Each wide link alone gives other bits: a width below 1, at 1, and above.
        for (int upper = 1; upper <= 500; upper += 7) {
            IntervalRouting z = new IntervalRouting();
            z.reset(3);
            z.set(0, 1);
            z.addLink(0, 1, 1, upper);
            z.addLink(1, 2, 1, 1);
            z.addLink(0, 2, 500, 500);
            z.run(4);
            boolean isByOne = upper + 1 <= 500;
            width(z, 2 * ((upper - 1) + (isByOne ? upper - 1 : 498)), 6);
        }
    }

    private static void settingsAndLinksCountAtOnce() {
        IntervalRouting x = fork(bounds(5, 20), bounds(10, 18), bounds(112, 119));
        Check.due("choice(0, 3)", x.choice(0, 3), 2);
        x.set(6, 119);
        Check.due("entry(0, 3, 3, 5)", x.entry(0, 3, 3, 5), 0);
        Check.due("entry(0, 3, 2, 5)", x.entry(0, 3, 2, 5), 1);
        x.setUp(2, 0, 0);
        Check.due("choice(0, 3)", x.choice(0, 3), -4);
        x.set(6, 120);
        Check.due("choice(0, 3)", x.choice(0, 3), 3);
        x.set(6, 121);
        x.set(2, 2);
        Check.due("choice(0, 3)", x.choice(0, 3), 1);
    }
}
