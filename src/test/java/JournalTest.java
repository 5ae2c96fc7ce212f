/** The part Journal and promises 17 and 18: journalSize and journal. */
public final class JournalTest {
    public static void main(String[] args) {
        emptyJournal();
        latestFirst();
        byNodesThenTargets();
        noChoiceIsOne();
        nothingChanged();
        onlyAtTheEndOfATick();
        sixteenChanges();
        seventeenChanges();
        oneTickFillsIt();
        manyTimesRound();
        sizes();
        changeValues();
        indexOutOfRange();
        whatOutOfRange();
        notSoMany();
        Check.end();
    }

    private static void change(IntervalRouting x, int index, int tick, int node, int target, int choice) {
        int[] due = {tick, node, target, choice};
        for (int what = 0; what < 4; what++) {
            Check.due("journal(" + index + ", " + what + ")", x.journal(index, what), due[what]);
        }
    }

    private static void emptyJournal() {
        Check.sentence("Promise 18", "NOT_FOUND if there are not so many");
        IntervalRouting x = Nets.row(2, 1, 2);
        Check.due("journalSize()", x.journalSize(), 0);
        for (int what = 0; what < 4; what++) {
            Check.due("journal(0, " + what + ")", x.journal(0, what), -4);
        }
    }

    private static void latestFirst() {
        Check.sentence("Journal", "numbered from 0, the latest one first");
        IntervalRouting x = Nets.row(3, 1, 2);
        x.run(1);
        Check.due("journalSize()", x.journalSize(), 4);
        change(x, 0, 1, 2, 1, 1);
        change(x, 3, 1, 0, 1, 1);
        x.run(1);
        Check.due("journalSize()", x.journalSize(), 6);
        change(x, 0, 2, 2, 0, 1);
        change(x, 1, 2, 0, 2, 1);
        change(x, 2, 1, 2, 1, 1);
        change(x, 5, 1, 0, 1, 1);
    }

    private static void byNodesThenTargets() {
        Check.sentence("A tick", "this is added to the journal, by nodes, then by targets");
        IntervalRouting x = Nets.row(3, 1, 2);
        x.run(1);
        change(x, 3, 1, 0, 1, 1);
        change(x, 2, 1, 1, 0, 0);
        change(x, 1, 1, 1, 2, 2);
        change(x, 0, 1, 2, 1, 1);
    }

    private static void noChoiceIsOne() {
        Check.sentence("Journal", "the new choice (-1 for none)");
        IntervalRouting x = Nets.row(2, 1, 2);
        x.set(0, 20);
        x.set(1, 1);
        // Node 1 sends at 19 and 39, node 0 at 20; each entry is usable in its tick and the next one.
        x.run(39);
        Check.due("journalSize()", x.journalSize(), 5);
        change(x, 4, 19, 0, 1, 1);
        change(x, 3, 20, 1, 0, 0);
        change(x, 2, 21, 0, 1, -1);
        change(x, 1, 22, 1, 0, -1);
        change(x, 0, 39, 0, 1, 1);
    }

    private static void nothingChanged() {
        Check.sentence("A tick", "if the choice (by tick t) is another one than at the end of the tick before");
        IntervalRouting x = Nets.row(3, 1, 2);
        x.run(2);
        Check.due("journalSize() at 2", x.journalSize(), 6);
        x.run(200);
        Check.due("journalSize() at 202", x.journalSize(), 6);
        Nets.relink(x, 3, 4);
        x.run(1);
        Check.due("journalSize(), other bounds but the same choices", x.journalSize(), 6);
    }

    private static void onlyAtTheEndOfATick() {
        Check.sentence("A tick", "if the choice (by tick t) is another one than at the end of the tick before");
        IntervalRouting x = Nets.row(3, 1, 2);
        x.run(3);
        x.setUp(0, 1, 0);
        Check.due("choice(0, 1)", x.choice(0, 1), -4);
        Check.due("journalSize() before the tick", x.journalSize(), 6);
        x.run(1);
        // Node 1 tells node 2 in this tick that 0 is unreachable.
        Check.due("journalSize() after the tick", x.journalSize(), 10);
        change(x, 3, 4, 0, 1, -1);
        change(x, 2, 4, 0, 2, -1);
        change(x, 1, 4, 1, 0, -1);
        change(x, 0, 4, 2, 0, -1);
        IntervalRouting y = Nets.row(2, 1, 2);
        y.run(1);
        y.setUp(0, 1, 0);
        y.choice(0, 1);
        y.setUp(0, 1, 1);
        y.run(1);
        Check.due("journalSize(), as at the end of the tick before", y.journalSize(), 2);
    }

    /** Changes at 19, 20, 21, 22, 39, 40, .., one each: nodes 0 and 1 choose, then 0 and 1 lose their choice. */
    private static IntervalRouting fourInTwenty(int ticks) {
        IntervalRouting x = Nets.row(2, 1, 2);
        x.set(0, 20);
        x.set(1, 1);
        x.run(ticks);
        return x;
    }

    private static void sixteenChanges() {
        Check.sentence("Journal", "The journal contains the latest 16 changes of choices");
        IntervalRouting x = fourInTwenty(81);
        Check.due("journalSize() at 81", x.journalSize(), 15);
        x.run(1);
        Check.due("journalSize() at 82", x.journalSize(), 16);
        change(x, 0, 82, 1, 0, -1);
        change(x, 14, 20, 1, 0, 0);
        change(x, 15, 19, 0, 1, 1);
        Check.due("journal(16, 0)", x.journal(16, 0), -4);
    }

    private static void seventeenChanges() {
        Check.sentence("Journal", "The journal contains the latest 16 changes of choices");
        IntervalRouting x = fourInTwenty(99);
        Check.due("journalSize() at 99", x.journalSize(), 16);
        change(x, 0, 99, 0, 1, 1);
        change(x, 1, 82, 1, 0, -1);
        change(x, 15, 20, 1, 0, 0);
        Check.due("journal(16, 0)", x.journal(16, 0), -4);
        x.run(1);
        Check.due("journalSize() at 100", x.journalSize(), 16);
        change(x, 0, 100, 1, 0, 0);
        change(x, 15, 21, 0, 1, -1);
    }

    private static void oneTickFillsIt() {
        Check.sentence("Journal", "The journal contains the latest 16 changes of choices");
        IntervalRouting x = Nets.row(8, 1, 1);
        for (int i = 0; i < 8; i++) {
            x.addLink(i, (i + 1) % 8, 1, 1);
            x.addLink(i, (i + 2) % 8, 1, 1);
        }
        x.run(1);
        // 32 changes, four of each node: those of nodes 4 to 7 remain.
        Check.due("journalSize()", x.journalSize(), 16);
        int[] seven = {6, 5, 1, 0};
        int[] four = {6, 5, 3, 2};
        for (int i = 0; i < 4; i++) {
            change(x, i, 1, 7, seven[i], seven[i]);
            change(x, 12 + i, 1, 4, four[i], four[i]);
        }
        Check.due("journal(16, 0)", x.journal(16, 0), -4);
    }

    private static void manyTimesRound() {
        Check.sentence("Journal", "The journal contains the latest 16 changes of choices");
        IntervalRouting x = fourInTwenty(199);
        for (int round = 1; round <= 40; round++) {
            x.run(20);
            int tick = 199 + 20 * round;
            Check.due("journalSize() at " + tick, x.journalSize(), 16);
            Check.due("journal(0, 0)", x.journal(0, 0), tick);
            Check.due("journal(1, 0)", x.journal(1, 0), tick - 17);
            Check.due("journal(4, 0)", x.journal(4, 0), tick - 20);
            Check.due("journal(15, 0)", x.journal(15, 0), tick - 79);
            Check.due("journal(15, 3)", x.journal(15, 3), 0);
        }
    }

    private static void sizes() {
        Check.sentence("Promise 17", "Returns the number of changes in the journal.");
        IntervalRouting x = fourInTwenty(18);
        int[] ticks = {18, 19, 20, 21, 22, 38, 39, 79, 80, 81, 82, 98, 99, 102};
        int[] due = {0, 1, 2, 3, 4, 4, 5, 13, 14, 15, 16, 16, 16, 16};
        for (int i = 0; i < ticks.length; i++) {
            if (ticks[i] > x.time()) {
                x.run(ticks[i] - x.time());
            }
            Check.due("journalSize() at " + ticks[i], x.journalSize(), due[i]);
        }
    }

    private static void changeValues() {
        Check.sentence("Promise 18", "0: the tick; 1: the node; 2: the target; 3: the new choice");
        IntervalRouting x = Nets.row(8, 1, 1);
        x.run(7);
        // Both ends know each other by now: node 0 by 1, node 7 by 6.
        change(x, 0, 7, 7, 0, 6);
        change(x, 1, 7, 0, 7, 1);
        change(x, 2, 6, 7, 1, 6);
    }

    private static void indexOutOfRange() {
        Check.sentence("Promise 18", "INVALID_ARGUMENT if index is negative");
        IntervalRouting x = fourInTwenty(100);
        for (int index : new int[] {-1, -2, -16, Nets.MIN}) {
            for (int what = 0; what < 4; what++) {
                Check.due("journal(" + index + ", " + what + ")", x.journal(index, what), -1);
            }
        }
        Check.due("journal(-1, 0) of an empty one", new IntervalRouting().journal(-1, 0), -1);
    }

    private static void whatOutOfRange() {
        Check.sentence("Promise 18", "or what is out of range");
        IntervalRouting x = fourInTwenty(100);
        for (int what : new int[] {-1, 4, 5, Nets.MIN, Nets.MAX}) {
            for (int index : new int[] {0, 15, 16, Nets.MAX, -1}) {
                Check.due("journal(" + index + ", " + what + ")", x.journal(index, what), -1);
            }
            Check.due("journal(0, " + what + ") of an empty one", new IntervalRouting().journal(0, what), -1);
        }
    }

    private static void notSoMany() {
        Check.sentence("Promise 18", "NOT_FOUND if there are not so many");
        IntervalRouting x = fourInTwenty(20);
        Check.due("journal(1, 0), the last one", x.journal(1, 0), 19);
        for (int index : new int[] {2, 3, 15, 16, 17, 100, Nets.MAX}) {
            Check.due("journal(" + index + ", 0)", x.journal(index, 0), -4);
        }
        IntervalRouting y = fourInTwenty(199);
        Check.due("journal(15, 0), the last one of a full one", y.journal(15, 0), 120);
        for (int index : new int[] {16, 17, 32, Nets.MAX}) {
            Check.due("journal(" + index + ", 3) of a full one", y.journal(index, 3), -4);
        }
    }
}
