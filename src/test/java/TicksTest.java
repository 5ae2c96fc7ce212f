/** Promises 9 to 11: run, time and sent, and the steps of a tick. */
public final class TicksTest {
    public static void main(String[] args) {
        runAnswers();
        runLimit();
        periods();
        sentByHorizon();
        horizonAnnouncements();
        announcementsOfTheBeginning();
        triggered();
        triggeredByUpperOrLowerBound();
        sendingToNobodyIsSending();
        limitedToInfinity();
        growthAndHold();
        growthFallsAndStays();
        growthSettingLowered();
        newAfterExpiry();
        Check.end();
    }

    /** A row of nodes, each joined to the next by a link with these bounds. */
    private static IntervalRouting row(int nodes, int lower, int upper) {
        IntervalRouting x = new IntervalRouting();
        x.reset(nodes);
        x.set(0, 1);
        for (int i = 0; i + 1 < nodes; i++) {
            x.addLink(i, i + 1, lower, upper);
        }
        return x;
    }

    private static void relink(IntervalRouting x, int lower, int upper) {
        x.removeLink(0, 1);
        x.addLink(0, 1, lower, upper);
    }

    private static void runAnswers() {
        IntervalRouting x = row(2, 1, 2);
        for (int ticks : new int[] {0, -1, 201, Integer.MIN_VALUE, Integer.MAX_VALUE}) {
            Check.due("run(" + ticks + ")", x.run(ticks), -1);
        }
        Check.due("time()", x.time(), 0);
        Check.due("sent()", x.sent(), 0);
        Check.due("run(1)", x.run(1), 1);
        Check.due("run(200)", x.run(200), 201);
        Check.due("time()", x.time(), 201);
        Check.due("sent()", x.sent(), 402);
    }

    private static void runLimit() {
        IntervalRouting x = row(2, 1, 2);
        for (int i = 0; i < 499; i++) {
            x.run(200);
        }
        Check.due("time()", x.time(), 99800);
        Check.due("run(99)", x.run(99), 99899);
        Check.due("run(102)", x.run(102), -3);
        Check.due("run(201)", x.run(201), -1);
        Check.due("time()", x.time(), 99899);
        Check.due("sent()", x.sent(), 2 * 99899);
        Check.due("run(101)", x.run(101), 100000);
        Check.due("run(1)", x.run(1), -3);
        Check.due("settling() goes on from there", x.settling(), 0);
        Check.due("time()", x.time(), 100000);
    }

    private static void periods() {
        IntervalRouting x = row(3, 1, 1);
        x.set(0, 5);
        x.set(3, 0);
        // Node 2 sends at ticks 3, 8, .., node 1 at 4, 9, .., node 0 at 5, 10, ..
        int[] due = {0, 0, 2, 6, 8, 8, 8, 10, 14, 16};
        for (int tick = 1; tick <= 10; tick++) {
            x.run(1);
            Check.due("sent() at " + tick, x.sent(), due[tick - 1]);
        }
    }

    private static void sentByHorizon() {
        int[] due = {8, 6, 8};
        for (int horizon = 0; horizon <= 2; horizon++) {
            IntervalRouting x = row(3, 2, 3);
            x.set(3, horizon);
            x.run(5);
            int before = x.sent();
            x.run(1);
            Check.due("sent() in a tick by horizon " + horizon, x.sent() - before, due[horizon]);
        }
    }

    private static void horizonAnnouncements() {
        IntervalRouting open = row(3, 2, 3);
        open.set(3, 0);
        open.run(5);
        Check.due("entry(1, 2, 0, 0) by horizon 0", open.entry(1, 2, 0, 0), 6);
        Check.due("entry(1, 2, 0, 1) by horizon 0", open.entry(1, 2, 0, 1), 9);
        IntervalRouting silent = row(3, 2, 3);
        silent.run(1);
        Check.due("entry(1, 2, 0, 1) before there is a choice", silent.entry(1, 2, 0, 1), 4000);
        Check.due("entry(1, 2, 0, 2) before there is a choice", silent.entry(1, 2, 0, 2), 14);
        silent.run(4);
        Check.due("entry(1, 2, 0, 2), told last at tick 2", silent.entry(1, 2, 0, 2), 15);
        IntervalRouting poisoned = row(3, 2, 3);
        poisoned.set(3, 2);
        poisoned.run(5);
        Check.due("entry(1, 2, 0, 0) by horizon 2", poisoned.entry(1, 2, 0, 0), 4000);
        Check.due("entry(1, 2, 0, 1) by horizon 2", poisoned.entry(1, 2, 0, 1), 4000);
        Check.due("entry(1, 2, 0, 2) by horizon 2", poisoned.entry(1, 2, 0, 2), 18);
        Check.due("entry(1, 2, 0, 5) by horizon 2", poisoned.entry(1, 2, 0, 5), 0);
        Check.due("entry(0, 2, 1, 1) by horizon 2", poisoned.entry(0, 2, 1, 1), 6);
        Check.due("entry(0, 0, 1, 0)", poisoned.entry(0, 0, 1, 0), -1);
    }

    private static void announcementsOfTheBeginning() {
        // What is heard in a tick is told on in the next one only.
        IntervalRouting x = row(5, 1, 2);
        for (int tick = 1; tick <= 4; tick++) {
            x.run(1);
            for (int target = 1; target < 5; target++) {
                Check.due("distance(0, " + target + ", 1) at " + tick, x.distance(0, target, 1),
                    target <= tick ? 2 * target : -4);
                Check.due("distance(4, " + (4 - target) + ", 0) at " + tick, x.distance(4, 4 - target, 0),
                    target <= tick ? target : -4);
            }
        }
    }

    private static void triggered() {
        IntervalRouting x = row(3, 1, 2);
        x.set(0, 20);
        x.set(1, 100);
        x.set(7, 1);
        // Ticks 1 and 2: all; tick 3: nodes 0 and 2, which are silent on what comes from node 1.
        int[] due = {8, 16, 18, 18, 18};
        for (int tick = 1; tick <= 5; tick++) {
            x.run(1);
            Check.due("sent() at " + tick, x.sent(), due[tick - 1]);
        }
        x.run(12);
        Check.due("sent() at 17", x.sent(), 18);
        x.run(1);
        Check.due("sent() at 18, where node 2 is due", x.sent(), 19);
        x.run(1);
        Check.due("sent() at 19, where node 1 is due", x.sent(), 23);
        x.set(7, 0);
        x.setUp(0, 1, 0);
        x.run(17);
        Check.due("sent() at 36, no trigger", x.sent(), 23);
        x.set(7, 1);
        x.run(1);
        // Node 0 sent to nobody at 20; node 1's vector is another one than at 19.
        Check.due("sent() at 37", x.sent(), 25);
    }

    private static void triggeredByUpperOrLowerBound() {
        int[][] bounds = {{3, 6}, {4, 5}, {4, 6}};
        for (int[] b : bounds) {
            IntervalRouting x = row(2, 4, 6);
            x.set(0, 19);
            x.set(7, 1);
            x.set(1, 100);
            x.run(18);
            Check.due("sent() at 18", x.sent(), 5);
            relink(x, b[0], b[1]);
            x.run(1);
            Check.due("sent() at 19", x.sent(), 6);
            x.run(2);
            boolean isSame = b[0] == 4 && b[1] == 6;
            Check.due("sent() at 21 with " + b[0] + " to " + b[1], x.sent(), isSame ? 6 : 8);
        }
    }

    private static void sendingToNobodyIsSending() {
        IntervalRouting x = new IntervalRouting();
        x.reset(2);
        x.set(0, 20);
        x.set(7, 1);
        x.run(1);
        Check.due("sent()", x.sent(), 0);
        x.addLink(0, 1, 1, 1);
        x.run(1);
        Check.due("sent(), the vectors are the same", x.sent(), 0);
        x.run(17);
        Check.due("sent(), node 1 is due", x.sent(), 1);
        x.run(1);
        Check.due("sent(), node 0 is due", x.sent(), 2);
    }

    private static void limitedToInfinity() {
        IntervalRouting x = row(4, 30, 40);
        x.set(6, 100);
        x.run(6);
        Check.due("distance(0, 2, 1)", x.distance(0, 2, 1), 80);
        Check.due("entry(0, 3, 1, 0)", x.entry(0, 3, 1, 0), 90);
        Check.due("entry(0, 3, 1, 1)", x.entry(0, 3, 1, 1), 100);
        Check.due("entry(0, 3, 1, 5)", x.entry(0, 3, 1, 5), 0);
        Check.due("distance(0, 3, 0)", x.distance(0, 3, 0), -4);
        x.set(6, 101);
        Check.due("entry(0, 3, 1, 5), infinity grew", x.entry(0, 3, 1, 5), 1);
        Check.due("distance(0, 3, 1), infinity grew", x.distance(0, 3, 1), 100);
        IntervalRouting y = row(2, 150, 170);
        y.set(6, 120);
        y.run(1);
        Check.due("entry(0, 1, 1, 0)", y.entry(0, 1, 1, 0), 120);
        Check.due("entry(0, 1, 1, 1)", y.entry(0, 1, 1, 1), 120);
    }

    private static void state(IntervalRouting x, int upper, int expiry, int growth, int held, int usable) {
        String at = " at " + x.time();
        Check.due("entry(0, 1, 1, 1)" + at, x.entry(0, 1, 1, 1), upper);
        Check.due("entry(0, 1, 1, 2)" + at, x.entry(0, 1, 1, 2), expiry);
        Check.due("entry(0, 1, 1, 3)" + at, x.entry(0, 1, 1, 3), growth);
        Check.due("entry(0, 1, 1, 4)" + at, x.entry(0, 1, 1, 4), held);
        Check.due("entry(0, 1, 1, 5)" + at, x.entry(0, 1, 1, 5), usable);
        Check.due("entries(0, 1, 3)" + at, x.entries(0, 1, 3), x.time() <= held ? 1 : 0);
        Check.due("distance(0, 1, 1)" + at, x.distance(0, 1, 1), usable == 1 ? upper : -4);
    }

    private static void growthAndHold() {
        IntervalRouting x = row(2, 1, 1);
        x.set(8, 2);
        x.set(9, 3);
        x.run(1);
        state(x, 1, 14, 0, 0, 1);
        relink(x, 1, 2);
        x.run(1);
        state(x, 2, 15, 1, 0, 1);
        relink(x, 1, 3);
        x.run(1);
        state(x, 3, 16, 0, 6, 0);
        x.run(1);
        state(x, 3, 17, 0, 6, 0);
        relink(x, 1, 4);
        x.run(1);
        state(x, 4, 18, 1, 6, 0);
        x.run(1);
        state(x, 4, 19, 1, 6, 0);
        x.run(1);
        state(x, 4, 20, 1, 6, 1);
        relink(x, 1, 5);
        x.run(1);
        state(x, 5, 21, 0, 11, 0);
    }

    private static void growthFallsAndStays() {
        IntervalRouting x = row(2, 1, 10);
        x.set(8, 3);
        x.run(1);
        relink(x, 1, 11);
        x.run(1);
        relink(x, 5, 12);
        x.run(1);
        state(x, 12, 16, 2, 0, 1);
        relink(x, 9, 12);
        x.run(1);
        state(x, 12, 17, 2, 0, 1);
        relink(x, 9, 11);
        x.run(1);
        state(x, 11, 18, 0, 0, 1);
        relink(x, 9, 12);
        x.run(1);
        state(x, 12, 19, 1, 0, 1);
    }

    private static void growthSettingLowered() {
        IntervalRouting x = row(2, 1, 1);
        x.set(8, 5);
        x.set(9, 50);
        x.run(1);
        relink(x, 2, 2);
        x.run(1);
        relink(x, 3, 3);
        x.run(1);
        state(x, 3, 16, 2, 0, 1);
        x.set(8, 2);
        state(x, 3, 16, 2, 0, 1);
        x.run(1);
        state(x, 3, 17, 0, 54, 0);
    }

    private static void newAfterExpiry() {
        IntervalRouting x = row(2, 1, 1);
        x.set(0, 4);
        x.set(1, 4);
        x.set(8, 2);
        x.set(9, 50);
        x.run(3);
        state(x, 1, 7, 0, 0, 1);
        relink(x, 2, 2);
        x.run(4);
        state(x, 2, 11, 1, 0, 1);
        x.set(1, 3);
        relink(x, 3, 3);
        x.run(4);
        state(x, 3, 14, 0, 61, 0);
        x.run(3);
        state(x, 3, 14, 0, 61, 0);
        relink(x, 4, 4);
        x.run(1);
        state(x, 4, 18, 0, 0, 1);
        x.set(1, 4);
        x.run(3);
        state(x, 4, 18, 0, 0, 1);
        x.setUp(0, 1, 0);
        x.run(1);
        x.setUp(0, 1, 1);
        state(x, 4, 18, 0, 0, 0);
        Check.due("entries(0, 1, 0) after the expiry", x.entries(0, 1, 0), 1);
        Check.due("entries(0, 1, 1) after the expiry", x.entries(0, 1, 1), 0);
        growthEndsWithTheEntry();
    }

    private static void growthEndsWithTheEntry() {
        IntervalRouting x = row(2, 1, 1);
        x.set(1, 1);
        x.run(1);
        relink(x, 2, 2);
        x.run(1);
        state(x, 2, 3, 1, 0, 1);
        x.setUp(0, 1, 0);
        x.run(2);
        relink(x, 2, 3);
        x.run(1);
        state(x, 3, 6, 0, 0, 1);
    }
}
