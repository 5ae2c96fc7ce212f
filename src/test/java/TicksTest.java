/** The part A tick and promises 9 to 11: run, time and sent, and the steps of a tick. */
public final class TicksTest {
    public static void main(String[] args) {
        ticks();
        senders();
        triggers();
        announcements();
        horizons();
        receiving();
        growing();
        run();
        counters();
        Check.end();
    }

    private static void ticks() {
        tickGrows();
        choicesAfterTheTick();
        noChoiceAtTickNought();
    }

    private static void senders() {
        periods();
        numbersAboveThePeriod();
        periodChanged();
    }

    private static void triggers() {
        triggered();
        triggeredByABound();
        triggeredByUnreachable();
        triggeredByAnEntryThatExpires();
        triggeredByAHoldThatEnds();
        notTriggeredByWhatIsAsBefore();
        sentWithoutTrigger();
        notSentYet();
        notSentYetWithoutTrigger();
        sendingToNobodyIsSending();
    }

    private static void announcements() {
        allOtherTargets();
        noughtForItself();
        unreachableTargets();
        onlyToNeighbours();
        tablesOfTheBeginning();
        oneAnnouncementEach();
    }

    private static void horizons() {
        horizonNought();
        horizonOne();
        horizonTwo();
        horizonBeforeAChoice();
        sentByHorizon();
    }

    private static void receiving() {
        limitedToInfinity();
        linkAboveInfinity();
        unreachableIsInfinity();
        newEntry();
        expiredEntry();
        expiredHold();
        expiryNow();
        expiryByTheLifetimeThen();
    }

    private static void growing() {
        growthOfTheUpperBound();
        growthBecomesNought();
        growthStays();
        growthToInfinity();
        growthAndHold();
        growthBeginsAnewAtAHold();
        growthBelow();
        growthSettingLowered();
    }

    private static void run() {
        runOutOfRange();
        runRange();
        runToTheEnd();
        runBeyondTheEnd();
    }

    private static void counters() {
        time();
        sent();
    }

    private static void tickGrows() {
        Check.sentence("A tick", "The tick counter t grows by 1.");
        IntervalRouting x = new IntervalRouting();
        for (int tick = 1; tick <= 5; tick++) {
            Check.due("run(1)", x.run(1), tick);
        }
    }

    private static void choicesAfterTheTick() {
        Check.sentence("A tick", "if the choice (by tick t) is another one than at the end of the tick before");
        IntervalRouting x = Nets.row(2, 1, 1);
        x.set(0, 20);
        x.set(1, 1);
        // Node 1 sends at 19: the entry expires at 20 and is gone at 21, by the tick then.
        x.run(19);
        Check.due("journalSize() at 19", x.journalSize(), 1);
        x.setUp(0, 1, 0);
        x.setUp(0, 1, 1);
        x.run(1);
        Check.due("journalSize() at 20, node 1 has heard", x.journalSize(), 2);
        x.run(1);
        Check.due("journalSize() at 21", x.journalSize(), 3);
        Check.due("journal(0, 3)", x.journal(0, 3), -1);
    }

    private static void noChoiceAtTickNought() {
        Check.sentence("A tick", "(no choice counts as one, and at the end of tick 0 there is none)");
        IntervalRouting x = Nets.row(3, 1, 1);
        x.run(1);
        // Four pairs have a choice now; the two pairs of the ends have none, as before.
        Check.due("journalSize()", x.journalSize(), 4);
        IntervalRouting y = new IntervalRouting();
        y.run(20);
        Check.due("journalSize() without links", y.journalSize(), 0);
    }

    private static void periods() {
        Check.sentence("A tick", "Each node sends if (t + its number) is a multiple of period");
        IntervalRouting x = Nets.row(3, 1, 1);
        x.set(0, 5);
        x.set(3, 0);
        // Node 2 sends at ticks 3, 8, .., node 1 at 4, 9, .., node 0 at 5, 10, ..
        int[] due = {0, 0, 2, 6, 8, 8, 8, 10, 14, 16};
        for (int tick = 1; tick <= 10; tick++) {
            x.run(1);
            Check.due("sent() at " + tick, x.sent(), due[tick - 1]);
        }
    }

    private static void numbersAboveThePeriod() {
        Check.sentence("A tick", "Each node sends if (t + its number) is a multiple of period");
        IntervalRouting x = Nets.row(8, 1, 1);
        x.set(0, 3);
        x.set(3, 0);
        // Nodes 2 and 5 at tick 1, nodes 1, 4 and 7 at tick 2, nodes 0, 3 and 6 at tick 3; 7 targets each.
        int[] due = {28, 63, 98, 126, 161, 196};
        for (int tick = 1; tick <= 6; tick++) {
            x.run(1);
            Check.due("sent() at " + tick, x.sent(), due[tick - 1]);
        }
    }

    private static void periodChanged() {
        Check.sentence("A tick", "Each node sends if (t + its number) is a multiple of period");
        IntervalRouting x = Nets.row(2, 1, 1);
        x.run(6);
        Check.due("sent() at 6", x.sent(), 12);
        x.set(0, 7);
        x.run(1);
        Check.due("sent() at 7, node 0", x.sent(), 13);
        x.set(0, 4);
        x.run(1);
        Check.due("sent() at 8, node 0", x.sent(), 14);
        x.set(0, 2);
        x.run(1);
        Check.due("sent() at 9, node 1", x.sent(), 15);
    }

    private static void triggered() {
        Check.sentence("A tick", "its vector is another one than when it sent the latest time");
        IntervalRouting x = Nets.row(3, 1, 2);
        x.set(0, 20);
        x.set(1, 100);
        x.set(7, 1);
        // Ticks 1 and 2: all; tick 3: nodes 0 and 2, which are silent on what comes from node 1.
        int[] due = {8, 16, 18, 18, 18};
        for (int tick = 1; tick <= 5; tick++) {
            x.run(1);
            Check.due("sent() at " + tick, x.sent(), due[tick - 1]);
        }
        x.run(12);
        Check.due("sent() at 17", x.sent(), 18);
        x.run(1);
        Check.due("sent() at 18, where node 2 is due", x.sent(), 19);
        x.run(1);
        Check.due("sent() at 19, where node 1 is due", x.sent(), 23);
        x.set(7, 0);
        x.setUp(0, 1, 0);
        x.run(17);
        Check.due("sent() at 36, no trigger", x.sent(), 23);
        x.set(7, 1);
        x.run(1);
        // Node 0 sent to nobody at 20; node 1's vector is another one than at 19.
        Check.due("sent() at 37", x.sent(), 25);
    }

    private static void triggeredByABound() {
        Check.sentence("A tick", "The vector of a node is the row of its distances to all nodes");
        int[][] due = {{3, 6, 8}, {4, 5, 8}, {4, 6, 6}};
        for (int[] d : due) {
            IntervalRouting x = Nets.row(2, 4, 6);
            x.set(0, 19);
            x.set(7, 1);
            x.set(1, 100);
            x.run(18);
            Check.due("sent() at 18", x.sent(), 5);
            Nets.relink(x, d[0], d[1]);
            x.run(1);
            Check.due("sent() at 19", x.sent(), 6);
            x.run(2);
            Check.due("sent() at 21 with " + d[0] + " to " + d[1], x.sent(), d[2]);
        }
    }

    private static void triggeredByUnreachable() {
        Check.sentence("A tick", "(or that they are unreachable)");
        IntervalRouting x = Nets.row(3, 1, 2);
        x.set(0, 20);
        x.set(1, 100);
        x.set(7, 1);
        x.run(5);
        int before = x.sent();
        x.setUp(1, 2, 0);
        x.run(1);
        // Node 1 tells node 0; node 2 sends to nobody.
        Check.due("sent() once 2 is unreachable for 1", x.sent() - before, 2);
        Check.due("entry(0, 2, 1, 1)", x.entry(0, 2, 1, 1), 4000);
        x.run(1);
        Check.due("sent() once 2 is unreachable for 0", x.sent() - before, 4);
        x.run(1);
        Check.due("sent() once both know", x.sent() - before, 4);
    }

    private static void triggeredByAnEntryThatExpires() {
        Check.sentence("A tick", "by the tables as they are at the beginning of this step, by tick t");
        IntervalRouting x = Nets.row(3, 1, 2);
        x.set(0, 20);
        x.set(1, 5);
        x.set(7, 1);
        // Node 1 sends at 1 and 2, nodes 0 and 2 at 1, 2 and 3: what they have of 1 expires at 7.
        x.run(7);
        Check.due("sent() at 7", x.sent(), 18);
        x.run(1);
        Check.due("sent() at 8, where 0 and 2 have lost all", x.sent(), 22);
        Check.due("entry(1, 2, 0, 1)", x.entry(1, 2, 0, 1), 4000);
    }

    private static void triggeredByAHoldThatEnds() {
        Check.sentence("A tick", "by the tables as they are at the beginning of this step, by tick t");
        IntervalRouting x = Nets.row(2, 1, 1);
        x.set(7, 1);
        x.set(8, 1);
        x.set(9, 3);
        x.run(1);
        Nets.relink(x, 1, 2);
        x.run(1);
        x.set(0, 20);
        // Both are held up to 5: another vector at 3, and the old one again at 6.
        int[] due = {6, 6, 6, 8, 8};
        for (int tick = 3; tick <= 7; tick++) {
            x.run(1);
            Check.due("sent() at " + tick, x.sent(), due[tick - 3]);
        }
    }

    private static void notTriggeredByWhatIsAsBefore() {
        Check.sentence("A tick", "its vector is another one than when it sent the latest time");
        IntervalRouting x = Nets.row(3, 5, 9);
        x.set(0, 20);
        x.set(1, 100);
        x.set(7, 1);
        x.run(5);
        int before = x.sent();
        x.setUp(0, 1, 0);
        x.setUp(0, 1, 1);
        x.run(1);
        Check.due("sent(), down and up between two ticks", x.sent() - before, 0);
        x.setCost(0, 1, 9);
        x.run(1);
        Check.due("sent(), another true cost", x.sent() - before, 0);
        x.set(2, 2);
        x.run(1);
        Check.due("sent(), another rule", x.sent() - before, 0);
        x.set(6, 100);
        x.run(1);
        Check.due("sent(), another infinity above all", x.sent() - before, 0);
    }

    private static void sentWithoutTrigger() {
        Check.sentence("A tick", "than when it sent the latest time");
        IntervalRouting x = Nets.row(2, 1, 2);
        x.set(0, 20);
        // Without trigger node 1 sends at 19 and hears of node 0 at 20; that one sends when it has heard of 1.
        x.run(20);
        Check.due("sent() at 20", x.sent(), 2);
        x.set(7, 1);
        x.run(1);
        Check.due("sent() at 21, node 1", x.sent(), 3);
        x.run(1);
        Check.due("sent() at 22, none", x.sent(), 3);
    }

    private static void notSentYet() {
        Check.sentence("A tick", "(or if it has not sent yet)");
        IntervalRouting x = Nets.row(3, 1, 2);
        x.set(0, 20);
        x.set(7, 1);
        x.run(1);
        Check.due("sent() at 1, all", x.sent(), 8);
        IntervalRouting y = Nets.row(3, 1, 2);
        y.set(0, 20);
        y.run(4);
        Check.due("sent() at 4, none", y.sent(), 0);
        y.set(7, 1);
        y.run(1);
        Check.due("sent() at 5, all, with the vectors of tick 0", y.sent(), 8);
    }

    private static void notSentYetWithoutTrigger() {
        Check.sentence("A tick", "or if trigger is 1 and its vector is another one");
        IntervalRouting x = Nets.row(3, 1, 2);
        x.set(0, 20);
        x.run(17);
        Check.due("sent() at 17, none is due", x.sent(), 0);
        x.run(1);
        Check.due("sent() at 18, node 2", x.sent(), 2);
    }

    private static void sendingToNobodyIsSending() {
        Check.sentence("A tick", "(or if it has not sent yet)");
        IntervalRouting x = new IntervalRouting();
        x.reset(2);
        x.set(0, 20);
        x.set(7, 1);
        x.run(1);
        Check.due("sent()", x.sent(), 0);
        x.addLink(0, 1, 1, 1);
        x.run(1);
        Check.due("sent(), the vectors are the same", x.sent(), 0);
        x.run(17);
        Check.due("sent(), node 1 is due", x.sent(), 1);
        x.run(1);
        Check.due("sent(), node 0 is due", x.sent(), 2);
    }

    private static void allOtherTargets() {
        Check.sentence("A tick", "sends to each of its neighbours, for each target other than the neighbour");
        for (int nodes = 2; nodes <= 8; nodes++) {
            IntervalRouting x = Nets.row(nodes, 1, 1);
            x.run(1);
            Check.due("sent() of " + nodes, x.sent(), 2 * (nodes - 1) * (nodes - 1));
            Check.due("entries(0, " + (nodes - 1) + ", 0)", x.entries(0, nodes - 1, 0), 1);
        }
    }

    private static void noughtForItself() {
        Check.sentence("A tick", "its distance to the target (0 to 0 for itself)");
        IntervalRouting x = Nets.row(3, 17, 23);
        x.run(1);
        Check.due("entry(0, 1, 1, 0)", x.entry(0, 1, 1, 0), 17);
        Check.due("entry(0, 1, 1, 1)", x.entry(0, 1, 1, 1), 23);
        x.run(1);
        Check.due("entry(0, 2, 1, 0)", x.entry(0, 2, 1, 0), 34);
        Check.due("entry(0, 2, 1, 1)", x.entry(0, 2, 1, 1), 46);
    }

    private static void unreachableTargets() {
        Check.sentence("A tick", "or unreachable");
        IntervalRouting x = Nets.row(4, 1, 2);
        x.run(1);
        Check.due("entry(0, 3, 1, 0)", x.entry(0, 3, 1, 0), 4000);
        Check.due("entry(0, 3, 1, 1)", x.entry(0, 3, 1, 1), 4000);
        Check.due("entry(0, 3, 1, 2)", x.entry(0, 3, 1, 2), 14);
        Check.due("entry(0, 3, 1, 5)", x.entry(0, 3, 1, 5), 0);
    }

    private static void onlyToNeighbours() {
        Check.sentence("A tick", "A node that sends sends to each of its neighbours");
        IntervalRouting x = new IntervalRouting();
        x.set(0, 1);
        x.addLink(0, 1, 1, 1);
        x.addLink(0, 2, 1, 1);
        x.addLink(0, 3, 1, 1);
        x.setUp(0, 2, 0);
        x.removeLink(0, 3);
        x.run(1);
        Check.due("sent()", x.sent(), 6);
        Check.due("entry(1, 0, 0, 0)", x.entry(1, 0, 0, 0), 1);
        Check.due("entry(2, 0, 0, 0)", x.entry(2, 0, 0, 0), -4);
        Check.due("entry(3, 0, 0, 0)", x.entry(3, 0, 0, 0), -4);
    }

    private static void tablesOfTheBeginning() {
        Check.sentence("A tick", "All announcements of a tick are made by the tables at the beginning of step 2");
        IntervalRouting x = Nets.row(5, 1, 2);
        for (int tick = 1; tick <= 4; tick++) {
            x.run(1);
            for (int target = 1; target < 5; target++) {
                Check.due("distance(0, " + target + ", 1) at " + tick, x.distance(0, target, 1),
                    target <= tick ? 2 * target : -4);
                Check.due("distance(4, " + (4 - target) + ", 0) at " + tick, x.distance(4, 4 - target, 0),
                    target <= tick ? target : -4);
            }
        }
    }

    private static void oneAnnouncementEach() {
        Check.sentence("A tick", "Sent announcements are counted (each for one target and neighbour).");
        IntervalRouting x = Nets.full();
        x.set(3, 0);
        x.run(1);
        Check.due("sent(), 32 neighbours and 7 targets", x.sent(), 224);
        x.run(10);
        Check.due("sent() in 11 ticks", x.sent(), 11 * 224);
    }

    private static void horizonNought() {
        Check.sentence("A tick", "its distance to the target (0 to 0 for itself), or unreachable");
        IntervalRouting x = Nets.row(3, 2, 3);
        x.set(3, 0);
        x.run(5);
        Check.due("entry(1, 2, 0, 0), told back", x.entry(1, 2, 0, 0), 6);
        Check.due("entry(1, 2, 0, 1), told back", x.entry(1, 2, 0, 1), 9);
    }

    private static void horizonOne() {
        Check.sentence("A tick", "If horizon is 1 and the neighbour is its choice for the target");
        IntervalRouting x = Nets.row(3, 2, 3);
        x.run(5);
        Check.due("entry(1, 2, 0, 2), told last at tick 2", x.entry(1, 2, 0, 2), 15);
        Check.due("entry(0, 2, 1, 2), not its choice", x.entry(0, 2, 1, 2), 18);
        Check.due("entry(1, 0, 0, 2), itself", x.entry(1, 0, 0, 2), 18);
        // A node with two ways is silent to the one that it chose only.
        IntervalRouting y = Nets.fork(Nets.bounds(1, 1), Nets.bounds(2, 2), null);
        Check.due("choice(0, 3)", y.choice(0, 3), 1);
        Check.due("entry(1, 3, 0, 2), told last at tick 2", y.entry(1, 3, 0, 2), 15);
        Check.due("entry(2, 3, 0, 2)", y.entry(2, 3, 0, 2), 19);
        Check.due("entry(2, 3, 0, 1)", y.entry(2, 3, 0, 1), 201);
    }

    private static void horizonTwo() {
        Check.sentence("A tick", "if horizon is 2, unreachable is sent instead");
        IntervalRouting x = Nets.row(3, 2, 3);
        x.set(3, 2);
        x.run(5);
        Check.due("entry(1, 2, 0, 0)", x.entry(1, 2, 0, 0), 4000);
        Check.due("entry(1, 2, 0, 1)", x.entry(1, 2, 0, 1), 4000);
        Check.due("entry(1, 2, 0, 2)", x.entry(1, 2, 0, 2), 18);
        Check.due("entry(1, 2, 0, 5)", x.entry(1, 2, 0, 5), 0);
        Check.due("entry(0, 2, 1, 1), not its choice", x.entry(0, 2, 1, 1), 6);
        Check.due("entry(0, 0, 1, 0)", x.entry(0, 0, 1, 0), -1);
    }

    private static void horizonBeforeAChoice() {
        Check.sentence("A tick", "and the neighbour is its choice for the target");
        for (int horizon = 0; horizon <= 2; horizon++) {
            IntervalRouting x = Nets.row(3, 2, 3);
            x.set(3, horizon);
            x.run(1);
            Check.due("entry(1, 2, 0, 1), no choice yet", x.entry(1, 2, 0, 1), 4000);
            Check.due("entry(1, 2, 0, 2), no choice yet", x.entry(1, 2, 0, 2), 14);
            Check.due("sent(), no choice yet", x.sent(), 8);
        }
    }

    private static void sentByHorizon() {
        Check.sentence("A tick", "Sent announcements are counted");
        int[] due = {8, 6, 8};
        for (int horizon = 0; horizon <= 2; horizon++) {
            IntervalRouting x = Nets.row(3, 2, 3);
            x.set(3, horizon);
            x.run(5);
            int before = x.sent();
            x.run(1);
            Check.due("sent() in a tick by horizon " + horizon, x.sent() - before, due[horizon]);
        }
    }

    private static void limitedToInfinity() {
        Check.sentence("A tick", "those announced plus those of the link, each limited to infinity");
        // Node 0 hears of node 2: 30 to 40 more than what node 1 has.
        int[][] due = {{50, 59, 80, 99, 1}, {50, 60, 80, 100, 0}, {50, 61, 80, 100, 0}, {69, 99, 99, 100, 0},
            {70, 99, 100, 100, 0}, {71, 99, 100, 100, 0}};
        for (int[] d : due) {
            IntervalRouting x = Nets.row(3, d[0], d[1]);
            Nets.relink(x, 30, 40);
            x.set(6, 100);
            x.run(6);
            Check.due("entry(0, 2, 1, 0)", x.entry(0, 2, 1, 0), d[2]);
            Check.due("entry(0, 2, 1, 1)", x.entry(0, 2, 1, 1), d[3]);
            Check.due("entry(0, 2, 1, 5)", x.entry(0, 2, 1, 5), d[4]);
            Check.due("distance(0, 2, 0)", x.distance(0, 2, 0), d[4] == 1 ? d[2] : -4);
            x.set(6, 101);
            Check.due("entry(0, 2, 1, 0), infinity grew", x.entry(0, 2, 1, 0), d[2]);
            Check.due("entry(0, 2, 1, 1), infinity grew", x.entry(0, 2, 1, 1), d[3]);
        }
    }

    private static void linkAboveInfinity() {
        Check.sentence("A tick", "each limited to infinity");
        int[][] due = {{150, 170, 120, 120}, {120, 170, 120, 120}, {119, 170, 119, 120}, {119, 119, 119, 119}};
        for (int[] d : due) {
            IntervalRouting x = Nets.row(2, d[0], d[1]);
            x.set(6, 120);
            x.run(1);
            Check.due("entry(0, 1, 1, 0)", x.entry(0, 1, 1, 0), d[2]);
            Check.due("entry(0, 1, 1, 1)", x.entry(0, 1, 1, 1), d[3]);
        }
    }

    private static void unreachableIsInfinity() {
        Check.sentence("A tick", "unreachable gives infinity for both");
        for (int infinity : new int[] {100, 101, 4000, 30000}) {
            IntervalRouting x = Nets.row(3, 7, 9);
            x.set(6, infinity);
            x.run(1);
            Check.due("entry(0, 2, 1, 0)", x.entry(0, 2, 1, 0), infinity);
            Check.due("entry(0, 2, 1, 1)", x.entry(0, 2, 1, 1), infinity);
        }
    }

    private static void state(IntervalRouting x, int upper, int expiry, int growth, int held, int usable) {
        String at = " at " + x.time();
        Check.due("entry(0, 1, 1, 1)" + at, x.entry(0, 1, 1, 1), upper);
        Check.due("entry(0, 1, 1, 2)" + at, x.entry(0, 1, 1, 2), expiry);
        Check.due("entry(0, 1, 1, 3)" + at, x.entry(0, 1, 1, 3), growth);
        Check.due("entry(0, 1, 1, 4)" + at, x.entry(0, 1, 1, 4), held);
        Check.due("entry(0, 1, 1, 5)" + at, x.entry(0, 1, 1, 5), usable);
        Check.due("entries(0, 1, 3)" + at, x.entries(0, 1, 3), x.time() <= held ? 1 : 0);
        Check.due("distance(0, 1, 1)" + at, x.distance(0, 1, 1), usable == 1 ? upper : -4);
    }

    private static void newEntry() {
        Check.sentence("A tick", "If there was no entry for this target and sender");
        IntervalRouting x = Nets.row(2, 1, 500);
        x.set(8, 1);
        x.run(1);
        state(x, 500, 14, 0, 0, 1);
    }

    private static void expiredEntry() {
        Check.sentence("A tick", "or its expiry was before t, there is a new one with the growth counter 0");
        // What is heard at tick 2 expires at 3; node 1 is then silent up to the tick given.
        int[][] due = {{3, 4, 2}, {4, 5, 0}, {5, 6, 0}};
        for (int[] d : due) {
            IntervalRouting x = Nets.row(2, 1, 1);
            x.set(1, 1);
            x.run(1);
            Nets.relink(x, 1, 2);
            x.run(1);
            state(x, 2, 3, 1, 0, 1);
            if (d[0] > 3) {
                x.setUp(0, 1, 0);
                x.run(d[0] - 3);
            }
            Nets.relink(x, 1, 3);
            x.run(1);
            state(x, 3, d[1], d[2], 0, 1);
        }
    }

    private static void expiredHold() {
        Check.sentence("A tick", "there is a new one with the growth counter 0, not held");
        for (int silent = 0; silent <= 1; silent++) {
            IntervalRouting x = Nets.row(2, 1, 1);
            x.set(1, 1);
            x.set(8, 1);
            x.set(9, 50);
            x.run(1);
            Nets.relink(x, 1, 2);
            x.run(1);
            state(x, 2, 3, 0, 52, 0);
            x.setUp(0, 1, 1 - silent);
            x.run(1);
            x.setUp(0, 1, 1);
            x.run(1);
            if (silent == 0) {
                state(x, 2, 5, 0, 52, 0);
            } else {
                state(x, 2, 5, 0, 0, 1);
            }
        }
    }

    private static void expiryNow() {
        Check.sentence("A tick", "The expiry becomes t + lifetime.");
        for (int lifetime : new int[] {1, 2, 99, 100}) {
            IntervalRouting x = Nets.row(2, 1, 1);
            x.set(1, lifetime);
            for (int tick = 1; tick <= 3; tick++) {
                x.run(1);
                Check.due("entry(0, 1, 1, 2) at " + tick, x.entry(0, 1, 1, 2), tick + lifetime);
            }
        }
    }

    private static void expiryByTheLifetimeThen() {
        Check.sentence("A tick", "The expiry becomes t + lifetime.");
        IntervalRouting x = Nets.row(2, 1, 1);
        x.run(1);
        x.set(1, 2);
        Check.due("entry(0, 1, 1, 2), as it was", x.entry(0, 1, 1, 2), 14);
        x.run(1);
        Check.due("entry(0, 1, 1, 2), less than before", x.entry(0, 1, 1, 2), 4);
        x.set(1, 100);
        x.run(1);
        Check.due("entry(0, 1, 1, 2)", x.entry(0, 1, 1, 2), 103);
    }

    private static void growthOfTheUpperBound() {
        Check.sentence("A tick", "the growth counter grows by 1 if the new upper bound is greater than the old one");
        int[][] due = {{1, 11, 1}, {10, 10, 0}, {10, 11, 1}, {2, 500, 1}, {4, 12, 1}};
        for (int[] d : due) {
            IntervalRouting x = Nets.row(2, 4, 10);
            x.run(1);
            Nets.relink(x, d[0], d[1]);
            x.run(1);
            Check.due("entry(0, 1, 1, 3) with " + d[0] + " to " + d[1], x.entry(0, 1, 1, 3), d[2]);
            Check.due("entry(0, 1, 1, 0)", x.entry(0, 1, 1, 0), d[0]);
            Check.due("entry(0, 1, 1, 1)", x.entry(0, 1, 1, 1), d[1]);
        }
    }

    /** Two nodes whose link has grown twice from 1 to 10 to 1 to 12. */
    private static IntervalRouting twiceGrown() {
        IntervalRouting x = Nets.row(2, 1, 10);
        x.run(1);
        Nets.relink(x, 1, 11);
        x.run(1);
        Nets.relink(x, 5, 12);
        x.run(1);
        return x;
    }

    private static void growthBecomesNought() {
        Check.sentence("A tick", "and becomes 0 if it is less");
        IntervalRouting x = twiceGrown();
        state(x, 12, 16, 2, 0, 1);
        Nets.relink(x, 9, 11);
        x.run(1);
        state(x, 11, 17, 0, 0, 1);
        Nets.relink(x, 9, 12);
        x.run(1);
        state(x, 12, 18, 1, 0, 1);
    }

    private static void growthStays() {
        Check.sentence("A tick", "if it is equal, it stays");
        IntervalRouting x = twiceGrown();
        x.run(1);
        state(x, 12, 17, 2, 0, 1);
        Nets.relink(x, 9, 12);
        x.run(1);
        state(x, 12, 18, 2, 0, 1);
        Nets.relink(x, 1, 12);
        x.run(20);
        state(x, 12, 38, 2, 0, 1);
        Nets.relink(x, 1, 13);
        x.run(1);
        state(x, 13, 39, 3, 0, 1);
    }

    private static void growthToInfinity() {
        Check.sentence("A tick", "the growth counter grows by 1 if the new upper bound is greater than the old one");
        IntervalRouting x = Nets.row(2, 100, 120);
        x.set(6, 130);
        x.run(1);
        Nets.relink(x, 100, 400);
        x.run(1);
        state(x, 130, 15, 1, 0, 0);
        Nets.relink(x, 100, 500);
        x.run(1);
        // Both are limited to infinity and so equal.
        state(x, 130, 16, 1, 0, 0);
    }

    private static void growthAndHold() {
        Check.sentence("A tick", "the entry is held up to tick t + hold");
        IntervalRouting x = Nets.row(2, 1, 1);
        x.set(8, 2);
        x.set(9, 3);
        x.run(1);
        state(x, 1, 14, 0, 0, 1);
        Nets.relink(x, 1, 2);
        x.run(1);
        state(x, 2, 15, 1, 0, 1);
        Nets.relink(x, 1, 3);
        x.run(1);
        state(x, 3, 16, 0, 6, 0);
        x.run(1);
        state(x, 3, 17, 0, 6, 0);
        Nets.relink(x, 1, 4);
        x.run(1);
        state(x, 4, 18, 1, 6, 0);
        x.run(1);
        state(x, 4, 19, 1, 6, 0);
        x.run(1);
        state(x, 4, 20, 1, 6, 1);
        Nets.relink(x, 1, 5);
        x.run(1);
        state(x, 5, 21, 0, 11, 0);
    }

    private static void growthBeginsAnewAtAHold() {
        Check.sentence("A tick", "and the growth counter becomes 0");
        IntervalRouting x = twiceGrown();
        x.set(8, 3);
        x.set(9, 1);
        int[] growths = {0, 1, 2, 0, 1, 2, 0};
        int[] holds = {5, 5, 5, 8, 8, 8, 11};
        for (int i = 0; i < growths.length; i++) {
            Nets.relink(x, 5, 13 + i);
            x.run(1);
            Check.due("entry(0, 1, 1, 3) at " + x.time(), x.entry(0, 1, 1, 3), growths[i]);
            Check.due("entry(0, 1, 1, 4) at " + x.time(), x.entry(0, 1, 1, 4), holds[i]);
        }
    }

    private static void growthBelow() {
        Check.sentence("A tick", "If the growth counter is at least growth then");
        IntervalRouting x = twiceGrown();
        x.set(8, 3);
        x.run(1);
        state(x, 12, 17, 2, 0, 1);
        Nets.relink(x, 5, 13);
        x.run(1);
        state(x, 13, 18, 0, 13, 0);
    }

    private static void growthSettingLowered() {
        Check.sentence("A tick", "If the growth counter is at least growth then");
        for (int growth = 1; growth <= 2; growth++) {
            IntervalRouting x = twiceGrown();
            x.set(8, growth);
            x.set(9, 50);
            state(x, 12, 16, 2, 0, 1);
            x.run(1);
            state(x, 12, 17, 0, 54, 0);
        }
    }

    private static void runOutOfRange() {
        Check.sentence("Promise 9", "INVALID_ARGUMENT if ticks is out of range");
        IntervalRouting x = Nets.row(2, 1, 2);
        for (int ticks : new int[] {0, -1, 201, 202, 100000, Nets.MIN, Nets.MAX}) {
            Check.due("run(" + ticks + ")", x.run(ticks), -1);
        }
        Check.due("time()", x.time(), 0);
        Check.due("sent()", x.sent(), 0);
    }

    private static void runRange() {
        Check.sentence("Promise 9", "`ticks`: 1 to 200");
        IntervalRouting x = Nets.row(2, 1, 2);
        Check.due("run(1)", x.run(1), 1);
        Check.due("sent()", x.sent(), 2);
        Check.due("run(200)", x.run(200), 201);
        Check.due("time()", x.time(), 201);
        Check.due("sent()", x.sent(), 402);
    }

    private static void runToTheEnd() {
        Check.sentence("Promise 9", "LIMIT_REACHED if the tick counter would be greater than 100000");
        IntervalRouting x = new IntervalRouting();
        x.addLink(0, 1, 1, 2);
        for (int i = 0; i < 499; i++) {
            x.run(200);
        }
        Check.due("run(99)", x.run(99), 99899);
        Check.due("run(102)", x.run(102), -3);
        Check.due("run(200)", x.run(200), -3);
        Check.due("run(201)", x.run(201), -1);
        Check.due("time()", x.time(), 99899);
        Check.due("run(101), to the last one", x.run(101), 100000);
    }

    private static void runBeyondTheEnd() {
        Check.sentence("Promise 9", "LIMIT_REACHED if the tick counter would be greater than 100000");
        IntervalRouting x = Nets.atTheEnd();
        int sent = x.sent();
        Check.due("run(1)", x.run(1), -3);
        Check.due("run(200)", x.run(200), -3);
        Check.due("run(0)", x.run(0), -1);
        Check.due("time()", x.time(), 100000);
        Check.due("sent()", x.sent(), sent);
        Check.due("choice(0, 1)", x.choice(0, 1), 1);
        Check.due("settling()", x.settling(), 0);
    }

    private static void time() {
        Check.sentence("Promise 10", "Returns the tick counter.");
        IntervalRouting x = new IntervalRouting();
        Check.due("time()", x.time(), 0);
        x.run(200);
        Check.due("time()", x.time(), 200);
        x.store();
        x.run(3);
        Check.due("time()", x.time(), 203);
        x.recall();
        Check.due("time() once recalled", x.time(), 200);
        x.reset(4);
        Check.due("time() once reset", x.time(), 0);
    }

    private static void sent() {
        Check.sentence("Promise 11", "Returns the number of announcements that have been sent.");
        IntervalRouting x = Nets.row(2, 1, 2);
        Check.due("sent(), none", x.sent(), 0);
        x.run(3);
        Check.due("sent()", x.sent(), 6);
        x.settling();
        x.recovery(0, 1);
        Check.due("sent(), not what would come", x.sent(), 6);
        x.removeLink(0, 1);
        x.run(3);
        Check.due("sent(), nobody to send to", x.sent(), 6);
    }
}
