/** Promises 26 and 27: store and recall. */
public final class StoreTest {
    public static void main(String[] args) {
        answers();
        restoresAll();
        settingsStay();
        storedStays();
        storesInPlace();
        lastChoicesAndVectorsComeBack();
        Check.end();
    }

    private static IntervalRouting row() {
        IntervalRouting x = new IntervalRouting();
        x.reset(3);
        x.set(0, 1);
        x.addLink(0, 1, 1, 5);
        x.addLink(1, 2, 2, 6);
        return x;
    }

    private static void answers() {
        IntervalRouting x = new IntervalRouting();
        Check.due("recall()", x.recall(), -2);
        Check.due("time()", x.time(), 0);
        Check.due("store()", x.store(), 0);
        Check.due("recall()", x.recall(), 0);
        x.run(7);
        Check.due("store()", x.store(), 7);
        x.run(5);
        Check.due("recall()", x.recall(), 7);
        Check.due("time()", x.time(), 7);
        x.reset(5);
        Check.due("recall() after reset", x.recall(), -2);
        Check.due("trueDistance(0, 4) after reset", x.trueDistance(0, 4), -4);
    }

    private static int[] look(IntervalRouting x) {
        int[] seen = new int[3 * 3 * 3 * 5 + 3 * 3 * 6 + 16 * 4 + 3];
        int at = 0;
        for (int a = 0; a < 3; a++) {
            for (int b = 0; b < 3; b++) {
                for (int c = 0; c < 3; c++) {
                    for (int what = 0; what < 5; what++) {
                        seen[at++] = x.entry(a, b, c, what);
                    }
                }
                for (int what = 0; what < 4; what++) {
                    seen[at++] = x.link(a, b, what);
                }
                seen[at++] = x.trueDistance(a, b);
                seen[at++] = x.choice(a, b);
            }
        }
        for (int index = 0; index < 16; index++) {
            for (int what = 0; what < 4; what++) {
                seen[at++] = x.journal(index, what);
            }
        }
        seen[at++] = x.time();
        seen[at++] = x.sent();
        seen[at++] = x.journalSize();
        return seen;
    }

    private static void same(String when, int[] got, int[] want) {
        for (int i = 0; i < want.length; i++) {
            Check.due("value " + i + " " + when, got[i], want[i]);
        }
    }

    private static void upset(IntervalRouting x) {
        x.removeLink(0, 1);
        x.addLink(0, 1, 9, 9);
        x.addLink(0, 2, 3, 3);
        x.setCost(1, 2, 4);
        x.setUp(1, 2, 0);
        x.run(9);
        x.setUp(0, 2, 0);
        x.run(9);
    }

    private static void restoresAll() {
        IntervalRouting x = row();
        x.set(8, 1);
        x.run(3);
        x.removeLink(0, 1);
        x.addLink(0, 1, 2, 7);
        x.setCost(0, 1, 6);
        x.run(1);
        int[] before = look(x);
        Check.due("store()", x.store(), 4);
        same("after store", look(x), before);
        upset(x);
        Check.due("recall()", x.recall(), 4);
        same("after recall", look(x), before);
        Check.due("addLink(0, 2, 1, 1)", x.addLink(0, 2, 1, 1), 3);
    }

    private static void settingsStay() {
        IntervalRouting x = row();
        x.store();
        x.set(0, 7);
        x.set(6, 300);
        x.recall();
        Check.due("set(0, 1)", x.set(0, 1), 7);
        Check.due("set(6, 100)", x.set(6, 100), 300);
    }

    private static void storedStays() {
        IntervalRouting x = row();
        x.run(3);
        int[] before = look(x);
        x.store();
        for (int i = 0; i < 3; i++) {
            upset(x);
            Check.due("recall()", x.recall(), 3);
            same("after recall " + i, look(x), before);
        }
        x.settling();
        x.loss(0, 1);
        x.recovery(0, 1);
        Check.due("recall()", x.recall(), 3);
        same("after recall", look(x), before);
    }

    private static void storesInPlace() {
        IntervalRouting x = row();
        x.run(1);
        x.store();
        x.run(1);
        int[] later = look(x);
        Check.due("store()", x.store(), 2);
        upset(x);
        Check.due("recall()", x.recall(), 2);
        same("after the second store", look(x), later);
    }

    private static void lastChoicesAndVectorsComeBack() {
        IntervalRouting x = new IntervalRouting();
        x.reset(2);
        x.set(0, 20);
        x.set(1, 100);
        x.set(7, 1);
        x.addLink(0, 1, 1, 1);
        x.run(3);
        Check.due("sent()", x.sent(), 4);
        x.store();
        x.setUp(0, 1, 0);
        x.run(3);
        Check.due("journalSize()", x.journalSize(), 4);
        x.recall();
        x.run(1);
        Check.due("sent(), the vectors are those of the latest sending", x.sent(), 4);
        Check.due("journalSize(), the choices are those of the tick before", x.journalSize(), 2);
        IntervalRouting y = new IntervalRouting();
        y.reset(2);
        y.set(0, 20);
        y.set(7, 1);
        y.addLink(0, 1, 1, 1);
        y.store();
        y.run(5);
        y.recall();
        y.run(1);
        Check.due("sent(), none had sent yet", y.sent(), 2);
    }
}
