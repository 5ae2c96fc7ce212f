/** Promises 17 and 18: journalSize and journal. */
public final class JournalTest {
    public static void main(String[] args) {
        wrongArguments();
        orderOfChanges();
        noChoiceIsOne();
        changesBetweenTicks();
        onlyTheLatest16();
        Check.end();
    }

    private static void change(IntervalRouting x, int index, int tick, int node, int target, int choice) {
        int[] due = {tick, node, target, choice};
        for (int what = 0; what < 4; what++) {
            Check.due("journal(" + index + ", " + what + ")", x.journal(index, what), due[what]);
        }
    }

    private static IntervalRouting row(int nodes) {
        IntervalRouting x = new IntervalRouting();
        x.reset(nodes);
        x.set(0, 1);
        for (int i = 0; i + 1 < nodes; i++) {
            x.addLink(i, i + 1, 1, 2);
        }
        return x;
    }

    private static void wrongArguments() {
        IntervalRouting x = row(2);
        int[][] wrong = {{-1, 0}, {Integer.MIN_VALUE, 0}, {0, -1}, {0, 4}, {-1, 4}, {16, 4}, {0, Integer.MAX_VALUE}};
        for (int[] w : wrong) {
            Check.due("journal(" + w[0] + ", " + w[1] + ")", x.journal(w[0], w[1]), -1);
        }
        Check.due("journal(0, 0)", x.journal(0, 0), -4);
        Check.due("journal(16, 3)", x.journal(16, 3), -4);
        x.run(1);
        Check.due("journalSize()", x.journalSize(), 2);
        Check.due("journal(1, 0)", x.journal(1, 0), 1);
        Check.due("journal(2, 0)", x.journal(2, 0), -4);
        Check.due("journal(MAX, 0)", x.journal(Integer.MAX_VALUE, 0), -4);
        Check.due("journal(2, 4)", x.journal(2, 4), -1);
    }

    private static void orderOfChanges() {
        IntervalRouting x = row(3);
        x.run(1);
        Check.due("journalSize()", x.journalSize(), 4);
        change(x, 3, 1, 0, 1, 1);
        change(x, 2, 1, 1, 0, 0);
        change(x, 1, 1, 1, 2, 2);
        change(x, 0, 1, 2, 1, 1);
        x.run(1);
        Check.due("journalSize()", x.journalSize(), 6);
        change(x, 1, 2, 0, 2, 1);
        change(x, 0, 2, 2, 0, 1);
        change(x, 5, 1, 0, 1, 1);
        x.run(5);
        Check.due("journalSize(), nothing changed", x.journalSize(), 6);
    }

    private static void noChoiceIsOne() {
        IntervalRouting x = row(2);
        x.set(0, 20);
        x.set(1, 1);
        // Node 1 sends at 19 and 39, node 0 at 20; each entry is usable in its tick and the next one.
        x.run(39);
        Check.due("journalSize()", x.journalSize(), 5);
        change(x, 4, 19, 0, 1, 1);
        change(x, 3, 20, 1, 0, 0);
        change(x, 2, 21, 0, 1, -1);
        change(x, 1, 22, 1, 0, -1);
        change(x, 0, 39, 0, 1, 1);
    }

    private static void changesBetweenTicks() {
        IntervalRouting x = row(3);
        x.run(3);
        x.setUp(0, 1, 0);
        Check.due("journalSize() before the tick", x.journalSize(), 6);
        x.run(1);
        // Node 1 tells node 2 in this tick that 0 is unreachable.
        Check.due("journalSize() after the tick", x.journalSize(), 10);
        change(x, 3, 4, 0, 1, -1);
        change(x, 2, 4, 0, 2, -1);
        change(x, 1, 4, 1, 0, -1);
        change(x, 0, 4, 2, 0, -1);
        IntervalRouting y = row(2);
        y.run(1);
        y.setUp(0, 1, 0);
        y.choice(0, 1);
        y.setUp(0, 1, 1);
        y.run(1);
        Check.due("journalSize(), as at the end of the tick before", y.journalSize(), 2);
    }

    private static void onlyTheLatest16() {
        IntervalRouting x = row(2);
        x.set(0, 20);
        x.set(1, 1);
        x.run(179);
        // Four changes in each 20 ticks: 19, 20, 21, 22, 39, ...
        Check.due("journalSize()", x.journalSize(), 16);
        change(x, 0, 179, 0, 1, 1);
        change(x, 1, 162, 1, 0, -1);
        change(x, 2, 161, 0, 1, -1);
        change(x, 3, 160, 1, 0, 0);
        change(x, 4, 159, 0, 1, 1);
        change(x, 13, 102, 1, 0, -1);
        change(x, 14, 101, 0, 1, -1);
        change(x, 15, 100, 1, 0, 0);
        Check.due("journal(16, 0)", x.journal(16, 0), -4);
        // A tick with more changes than the journal holds.
        IntervalRouting y = new IntervalRouting();
        y.reset(8);
        y.set(0, 1);
        for (int i = 0; i < 8; i++) {
            y.addLink(i, (i + 1) % 8, 1, 1);
            y.addLink(i, (i + 2) % 8, 1, 1);
        }
        y.run(1);
        Check.due("journalSize()", y.journalSize(), 16);
        change(y, 0, 1, 7, 6, 6);
        change(y, 1, 1, 7, 5, 5);
        change(y, 2, 1, 7, 1, 1);
        change(y, 3, 1, 7, 0, 0);
        change(y, 4, 1, 6, 7, 7);
        change(y, 15, 1, 4, 2, 2);
    }
}
