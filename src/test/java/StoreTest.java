import java.util.List;

/** Promises 26 and 27: store and recall. */
public final class StoreTest {
    public static void main(String[] args) {
        storeReturnsTheTick();
        storesTheNetwork();
        storesTheTables();
        storesTheTick();
        storesTheLastTick();
        storesTheCounter();
        storesTheJournal();
        storesAFullJournal();
        storesAnEmptyNetwork();
        settingsAreNotStored();
        storesInPlace();
        storeChangesNothing();
        recallReturnsTheTick();
        staysStored();
        staysStoredWhateverIsAsked();
        nothingStored();
        nothingStoredAfterReset();
        storedThoughResetIsRefused();
        whatComesIsStored();
        whatWasSentIsStored();
        whatWasChosenIsStored();
        Check.end();
    }

    /** 3 nodes, with links whose values all differ, held entries and a journal. */
    private static IntervalRouting rich() {
        IntervalRouting x = Nets.row(3, 2, 6);
        x.set(8, 1);
        Nets.relink(x, 1, 5);
        x.run(3);
        Nets.relink(x, 2, 7);
        x.setCost(0, 1, 6);
        x.run(1);
        return x;
    }

    private static void upset(IntervalRouting x) {
        x.removeLink(0, 1);
        x.addLink(0, 1, 9, 9);
        x.addLink(0, 2, 3, 3);
        x.setCost(1, 2, 4);
        x.setUp(1, 2, 0);
        x.run(9);
        x.setUp(0, 2, 0);
        x.run(9);
    }

    private static void storeReturnsTheTick() {
        Check.sentence("Promise 26", "Returns the tick counter.");
        IntervalRouting x = new IntervalRouting();
        Check.due("store() at 0", x.store(), 0);
        x.run(7);
        Check.due("store() at 7", x.store(), 7);
        Check.due("store() at 7, once more", x.store(), 7);
    }

    private static void storesTheNetwork() {
        Check.sentence("Promise 26", "Stores the network");
        IntervalRouting x = rich();
        x.setUp(1, 2, 0);
        x.store();
        x.removeLink(0, 1);
        x.removeLink(1, 2);
        x.addLink(0, 2, 100, 200);
        x.addLink(1, 2, 300, 400);
        x.recall();
        int[][] due = {{2, 7, 6, 1}, {2, 6, 2, 0}};
        for (int what = 0; what < 4; what++) {
            Check.due("link(0, 1, " + what + ")", x.link(0, 1, what), due[0][what]);
            Check.due("link(2, 1, " + what + ")", x.link(2, 1, what), due[1][what]);
            Check.due("link(0, 2, " + what + ")", x.link(0, 2, what), -4);
        }
        Check.due("addLink(0, 2, 1, 1), the third one", x.addLink(0, 2, 1, 1), 3);
    }

    private static void storesTheTables() {
        Check.sentence("Promise 26", "the tables");
        IntervalRouting x = rich();
        x.store();
        int[] due = {2, 7, 17, 0, 12, 0, 0};
        for (int what = 0; what < 7; what++) {
            Check.due("entry(0, 1, 1, " + what + ")", x.entry(0, 1, 1, what), due[what]);
        }
        upset(x);
        Check.due("entries(0, 2, 0)", x.entries(0, 2, 0), 2);
        x.recall();
        for (int what = 0; what < 7; what++) {
            Check.due("entry(0, 1, 1, " + what + ") once recalled", x.entry(0, 1, 1, what), due[what]);
        }
        Check.due("entries(0, 2, 0) once recalled", x.entries(0, 2, 0), 1);
        Check.due("entry(0, 2, 2, 0) once recalled", x.entry(0, 2, 2, 0), -4);
    }

    private static void storesTheTick() {
        Check.sentence("Promise 26", "the tick counter");
        IntervalRouting x = rich();
        x.store();
        x.run(200);
        x.recall();
        Check.due("time()", x.time(), 4);
        Check.due("run(1)", x.run(1), 5);
    }

    private static void storesTheLastTick() {
        Check.sentence("Promise 26", "the tick counter");
        IntervalRouting x = Nets.atTheEnd();
        Check.due("store() at the end", x.store(), 100000);
        Check.due("run(1)", x.run(1), -3);
        Check.due("recall()", x.recall(), 100000);
        Check.due("run(1) once recalled", x.run(1), -3);
        IntervalRouting y = new IntervalRouting();
        y.run(5);
        y.store();
        for (int i = 0; i < 499; i++) {
            y.run(200);
        }
        Check.due("run(195)", y.run(195), 100000);
        Check.due("recall()", y.recall(), 5);
        Check.due("run(200) once recalled", y.run(200), 205);
    }

    private static void storesTheCounter() {
        Check.sentence("Promise 26", "the counter of announcements");
        IntervalRouting x = rich();
        int sent = x.sent();
        x.store();
        upset(x);
        Check.holds("more are sent then", x.sent() > sent);
        x.recall();
        Check.due("sent()", x.sent(), sent);
    }

    private static void storesTheJournal() {
        Check.sentence("Promise 26", "and the journal");
        IntervalRouting x = Nets.row(2, 1, 1);
        x.run(1);
        x.store();
        x.setUp(0, 1, 0);
        x.run(1);
        Check.due("journalSize()", x.journalSize(), 4);
        x.recall();
        Check.due("journalSize() once recalled", x.journalSize(), 2);
        int[][] due = {{1, 1, 0, 0}, {1, 0, 1, 1}};
        for (int what = 0; what < 4; what++) {
            Check.due("journal(0, " + what + ")", x.journal(0, what), due[0][what]);
            Check.due("journal(1, " + what + ")", x.journal(1, what), due[1][what]);
            Check.due("journal(2, " + what + ")", x.journal(2, what), -4);
        }
    }

    private static void storesAFullJournal() {
        Check.sentence("Promise 26", "and the journal");
        IntervalRouting x = Nets.row(2, 1, 1);
        x.set(0, 20);
        x.set(1, 1);
        // One change each at 19, 20, 21, 22, 39, .., 99: seventeen.
        x.run(99);
        x.store();
        x.run(140);
        Check.due("journal(15, 0) later", x.journal(15, 0), 160);
        x.recall();
        Check.due("journalSize()", x.journalSize(), 16);
        for (int index = 0; index < 16; index++) {
            int[] steps = {19, 20, 21, 22};
            int number = 16 - index;
            Check.due("journal(" + index + ", 0)", x.journal(index, 0), number / 4 * 20 + steps[number % 4]);
            Check.due("journal(" + index + ", 1)", x.journal(index, 1), number % 2);
            Check.due("journal(" + index + ", 2)", x.journal(index, 2), 1 - number % 2);
            Check.due("journal(" + index + ", 3)", x.journal(index, 3),
                number % 4 > 1 ? -1 : 1 - number % 2);
        }
        Check.due("journal(16, 0)", x.journal(16, 0), -4);
    }

    private static void storesAnEmptyNetwork() {
        Check.sentence("Promise 26", "Stores the network");
        IntervalRouting x = new IntervalRouting();
        x.reset(3);
        x.set(0, 1);
        x.store();
        List<Integer> due = Look.now(x);
        upset(x);
        x.recall();
        Check.holds("all is empty again", Look.now(x).equals(due));
        Check.due("addLink(0, 1, 1, 1)", x.addLink(0, 1, 1, 1), 1);
    }

    private static void settingsAreNotStored() {
        Check.sentence("Promise 26", "(not the settings)");
        IntervalRouting x = new IntervalRouting();
        x.store();
        for (int[] setting : SettingsTest.SETTINGS) {
            x.set(setting[0], setting[2]);
        }
        x.recall();
        for (int[] setting : SettingsTest.SETTINGS) {
            Check.due("set(" + setting[0] + ", ..)", x.set(setting[0], setting[1]), setting[2]);
        }
    }

    private static void storesInPlace() {
        Check.sentence("Promise 26", "in place of what was stored before");
        IntervalRouting x = rich();
        x.store();
        x.run(1);
        List<Integer> due = Look.now(x);
        Check.due("store()", x.store(), 5);
        upset(x);
        Check.due("recall()", x.recall(), 5);
        Check.holds("all is as at the second store", Look.now(x).equals(due));
    }

    private static void storeChangesNothing() {
        Check.sentence("Promise 26", "Stores the network, the tables, the tick counter");
        IntervalRouting x = rich();
        List<Integer> due = Look.now(x);
        x.store();
        Check.holds("all is as before", Look.now(x).equals(due));
    }

    private static void recallReturnsTheTick() {
        Check.sentence("Promise 27", "Returns the tick counter then");
        IntervalRouting x = new IntervalRouting();
        x.store();
        x.run(5);
        Check.due("recall() to 0", x.recall(), 0);
        x.run(7);
        x.store();
        x.run(5);
        Check.due("recall() to 7", x.recall(), 7);
        Check.due("time()", x.time(), 7);
    }

    private static void staysStored() {
        Check.sentence("Promise 27", "it stays stored");
        IntervalRouting x = rich();
        List<Integer> due = Look.now(x);
        x.store();
        for (int i = 0; i < 3; i++) {
            upset(x);
            Check.due("recall()", x.recall(), 4);
        }
        Check.due("recall(), at once again", x.recall(), 4);
        Check.holds("all is as stored", Look.now(x).equals(due));
    }

    private static void staysStoredWhateverIsAsked() {
        Check.sentence("Promise 27", "it stays stored");
        IntervalRouting x = rich();
        List<Integer> due = Look.now(x);
        x.store();
        upset(x);
        x.settling();
        x.loss(0, 1);
        x.recovery(0, 1);
        Check.due("recall()", x.recall(), 4);
        Check.holds("all is as stored", Look.now(x).equals(due));
    }

    private static void nothingStored() {
        Check.sentence("Promise 27", "NOT_POSSIBLE if nothing was stored");
        IntervalRouting x = rich();
        List<Integer> due = Look.now(x);
        Check.due("recall()", x.recall(), -2);
        x.settling();
        x.recovery(0, 1);
        Check.due("recall() after questions", x.recall(), -2);
        Check.holds("all is as before", Look.now(x).equals(due));
    }

    private static void nothingStoredAfterReset() {
        Check.sentence("Promise 27", "NOT_POSSIBLE if nothing was stored");
        IntervalRouting x = rich();
        x.store();
        x.reset(8);
        x.addLink(0, 7, 1, 1);
        Check.due("recall() after reset", x.recall(), -2);
        Check.due("link(0, 7, 0)", x.link(0, 7, 0), 1);
        Check.due("store()", x.store(), 0);
        x.run(1);
        Check.due("recall()", x.recall(), 0);
        Check.due("link(0, 7, 0), 8 nodes are stored", x.link(0, 7, 0), 1);
    }

    private static void storedThoughResetIsRefused() {
        Check.sentence("Promise 27", "Restores what was stored");
        IntervalRouting x = rich();
        x.store();
        x.run(3);
        Check.due("reset(1)", x.reset(1), -1);
        Check.due("recall()", x.recall(), 4);
    }

    private static void whatComesIsStored() {
        Check.sentence("Promise 27", "Restores what was stored");
        IntervalRouting x = rich();
        x.store();
        x.run(6);
        List<Integer> due = Look.now(x);
        upset(x);
        x.recall();
        x.run(6);
        Check.holds("the same comes as at first", Look.now(x).equals(due));
    }

    private static void whatWasSentIsStored() {
        Check.sentence("Promise 27", "Restores what was stored");
        IntervalRouting x = Nets.row(2, 1, 1);
        x.set(0, 20);
        x.set(1, 100);
        x.set(7, 1);
        x.run(3);
        Check.due("sent()", x.sent(), 4);
        x.store();
        x.setUp(0, 1, 0);
        x.run(3);
        x.recall();
        x.run(1);
        Check.due("sent(), the vectors are those of the latest sending", x.sent(), 4);
        IntervalRouting y = Nets.row(2, 1, 1);
        y.set(0, 20);
        y.set(7, 1);
        y.store();
        y.run(5);
        y.recall();
        y.run(1);
        Check.due("sent(), none had sent yet", y.sent(), 2);
    }

    private static void whatWasChosenIsStored() {
        Check.sentence("Promise 27", "Restores what was stored");
        IntervalRouting x = Nets.row(2, 1, 1);
        x.run(3);
        x.store();
        x.setUp(0, 1, 0);
        x.run(3);
        Check.due("journalSize()", x.journalSize(), 4);
        x.recall();
        x.run(1);
        Check.due("journalSize(), the choices are those of the tick before", x.journalSize(), 2);
    }
}
