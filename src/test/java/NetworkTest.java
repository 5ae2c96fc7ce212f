/** Promises 1 to 8: a new object, reset, the links and the settings. */
public final class NetworkTest {
    private static final int MIN = Integer.MIN_VALUE;
    private static final int MAX = Integer.MAX_VALUE;
    private static final int[][] SETTINGS = { // what, least, most, initially
        {0, 1, 20, 4}, {1, 1, 100, 13}, {2, 0, 2, 0}, {3, 0, 2, 1},
        {6, 100, 30000, 4000}, {7, 0, 1, 0}, {8, 1, 20, 4}, {9, 1, 50, 8}};

    public static void main(String[] args) {
        newObject();
        newObjectsAreApart();
        resetAnswers();
        resetClears();
        resetForgetsWhatWasSentAndChosen();
        addLinkAnswers();
        addLinkLimit();
        removeLinkAnswers();
        removeLinkLeavesEntries();
        setCostAnswers();
        setUpAnswers();
        linkAnswers();
        setAnswers();
        settingsStayAtReset();
        Check.end();
    }

    private static void newObject() {
        IntervalRouting x = new IntervalRouting();
        Check.due("time()", x.time(), 0);
        Check.due("sent()", x.sent(), 0);
        Check.due("journalSize()", x.journalSize(), 0);
        Check.due("trueDistance(0, 3)", x.trueDistance(0, 3), -4);
        Check.due("trueDistance(0, 4)", x.trueDistance(0, 4), -1);
        for (int a = 0; a < 4; a++) {
            for (int b = 0; b < 4; b++) {
                Check.due("link(" + a + ", " + b + ", 0)", x.link(a, b, 0), a == b ? -1 : -4);
                Check.due("entries(" + a + ", " + b + ", 0)", x.entries(a, b, 0), a == b ? -1 : 0);
            }
        }
        Check.due("recall()", x.recall(), -2);
        for (int[] setting : SETTINGS) {
            Check.due("set(" + setting[0] + ", ..)", x.set(setting[0], setting[1]), setting[3]);
        }
        Check.due("reset(4)", x.reset(4), 4);
    }

    private static void newObjectsAreApart() {
        IntervalRouting x = new IntervalRouting();
        IntervalRouting y = new IntervalRouting();
        x.addLink(0, 1, 1, 1);
        x.set(0, 1);
        x.run(3);
        Check.due("y.link(0, 1, 0)", y.link(0, 1, 0), -4);
        Check.due("y.set(0, 1)", y.set(0, 1), 4);
        Check.due("y.time()", y.time(), 0);
    }

    private static void resetAnswers() {
        IntervalRouting x = new IntervalRouting();
        Check.due("reset(1)", x.reset(1), -1);
        Check.due("reset(9)", x.reset(9), -1);
        Check.due("reset(MIN)", x.reset(MIN), -1);
        Check.due("reset(MAX)", x.reset(MAX), -1);
        Check.due("reset(2)", x.reset(2), 4);
        Check.due("trueDistance(0, 1)", x.trueDistance(0, 1), -4);
        Check.due("trueDistance(0, 2)", x.trueDistance(0, 2), -1);
        Check.due("reset(8)", x.reset(8), 2);
        Check.due("trueDistance(0, 7)", x.trueDistance(0, 7), -4);
        Check.due("trueDistance(0, 8)", x.trueDistance(0, 8), -1);
        Check.due("reset(8)", x.reset(8), 8);
        x.addLink(0, 7, 1, 1);
        x.run(1);
        x.store();
        Check.due("reset(9)", x.reset(9), -1);
        Check.due("time() after a reset that is refused", x.time(), 1);
        Check.due("link(0, 7, 0) after a reset that is refused", x.link(0, 7, 0), 1);
        Check.due("recall() after a reset that is refused", x.recall(), 1);
    }

    private static void resetClears() {
        IntervalRouting x = new IntervalRouting();
        x.addLink(0, 1, 5, 5);
        x.addLink(1, 2, 5, 5);
        x.set(0, 1);
        x.run(3);
        x.store();
        Check.due("journalSize() before", x.journalSize(), 6);
        Check.due("reset(4)", x.reset(4), 4);
        Check.due("time()", x.time(), 0);
        Check.due("sent()", x.sent(), 0);
        Check.due("journalSize()", x.journalSize(), 0);
        Check.due("journal(0, 0)", x.journal(0, 0), -4);
        Check.due("recall()", x.recall(), -2);
        Check.due("link(0, 1, 0)", x.link(0, 1, 0), -4);
        Check.due("entry(0, 1, 1, 0)", x.entry(0, 1, 1, 0), -4);
        Check.due("entries(0, 1, 0)", x.entries(0, 1, 0), 0);
        Check.due("addLink(0, 1, 7, 9)", x.addLink(0, 1, 7, 9), 1);
        Check.due("link(0, 1, 2)", x.link(0, 1, 2), 7);
        Check.due("choice(0, 1)", x.choice(0, 1), -4);
        Check.due("run(1)", x.run(1), 1);
        Check.due("entry(0, 1, 1, 1)", x.entry(0, 1, 1, 1), 9);
        Check.due("entry(0, 1, 1, 3)", x.entry(0, 1, 1, 3), 0);
    }

    private static void resetForgetsWhatWasSentAndChosen() {
        IntervalRouting x = new IntervalRouting();
        x.reset(2);
        x.set(7, 1);
        x.set(0, 20);
        x.addLink(0, 1, 5, 5);
        x.run(2);
        Check.due("journalSize()", x.journalSize(), 2);
        x.reset(2);
        x.run(1);
        Check.due("journalSize() without a link", x.journalSize(), 0);
        x.reset(2);
        x.addLink(0, 1, 5, 5);
        x.run(1);
        Check.due("sent(), as both have not sent yet", x.sent(), 2);
        Check.due("journalSize() with the link", x.journalSize(), 2);
    }

    private static void addLinkAnswers() {
        IntervalRouting x = new IntervalRouting();
        int[][] wrong = {{0, 0, 1, 1}, {3, 3, 1, 1}, {-1, 1, 1, 1}, {0, 4, 1, 1}, {4, 0, 1, 1}, {1, -1, 1, 1},
            {MIN, 0, 1, 1}, {0, MAX, 1, 1}, {0, 1, 0, 1}, {0, 1, -1, 1}, {0, 1, 5, 4}, {0, 1, 1, 0},
            {0, 1, 500, 501}, {0, 1, 501, 501}, {0, 1, MIN, MAX}, {0, 1, 1, MAX}};
        for (int[] w : wrong) {
            Check.due("addLink(" + w[0] + ", " + w[1] + ", " + w[2] + ", " + w[3] + ")",
                x.addLink(w[0], w[1], w[2], w[3]), -1);
        }
        Check.due("addLink(0, 1, 1, 500)", x.addLink(0, 1, 1, 500), 1);
        Check.due("addLink(3, 2, 500, 500)", x.addLink(3, 2, 500, 500), 2);
        Check.due("addLink(0, 1, 2, 3)", x.addLink(0, 1, 2, 3), -2);
        Check.due("addLink(1, 0, 2, 3)", x.addLink(1, 0, 2, 3), -2);
        Check.due("addLink(1, 0, 0, 3)", x.addLink(1, 0, 0, 3), -1);
        Check.due("link(1, 0, 0)", x.link(1, 0, 0), 1);
        Check.due("link(1, 0, 1)", x.link(1, 0, 1), 500);
        Check.due("link(0, 1, 2), initially the lower bound", x.link(0, 1, 2), 1);
        Check.due("link(0, 1, 3), initially up", x.link(0, 1, 3), 1);
        x.setUp(0, 1, 0);
        Check.due("addLink(0, 1, 2, 3) where one is down", x.addLink(0, 1, 2, 3), -2);
        Check.due("addLink(0, 2, 4, 6)", x.addLink(0, 2, 4, 6), 3);
    }

    private static void addLinkLimit() {
        IntervalRouting x = new IntervalRouting();
        x.reset(8);
        for (int i = 0; i < 8; i++) {
            Check.due("addLink " + (2 * i + 1), x.addLink(i, (i + 1) % 8, 1, 2), 2 * i + 1);
            Check.due("addLink " + (2 * i + 2), x.addLink(i, (i + 2) % 8, 1, 2), 2 * i + 2);
        }
        Check.due("addLink(0, 4, 1, 2)", x.addLink(0, 4, 1, 2), -3);
        Check.due("link(0, 4, 0)", x.link(0, 4, 0), -4);
        Check.due("addLink(0, 1, 1, 2), there is one", x.addLink(0, 1, 1, 2), -2);
        Check.due("addLink(0, 4, 2, 1), out of range", x.addLink(0, 4, 2, 1), -1);
        Check.due("removeLink(1, 0)", x.removeLink(1, 0), 15);
        Check.due("addLink(0, 4, 1, 2)", x.addLink(0, 4, 1, 2), 16);
    }

    private static void removeLinkAnswers() {
        IntervalRouting x = new IntervalRouting();
        x.addLink(0, 1, 1, 9);
        x.addLink(2, 1, 1, 9);
        Check.due("removeLink(0, 0)", x.removeLink(0, 0), -1);
        Check.due("removeLink(-1, 0)", x.removeLink(-1, 0), -1);
        Check.due("removeLink(0, 4)", x.removeLink(0, 4), -1);
        Check.due("removeLink(MAX, MIN)", x.removeLink(MAX, MIN), -1);
        Check.due("removeLink(0, 2)", x.removeLink(0, 2), -4);
        x.setCost(0, 1, 4);
        x.setUp(0, 1, 0);
        Check.due("removeLink(1, 0)", x.removeLink(1, 0), 1);
        Check.due("link(0, 1, 0)", x.link(0, 1, 0), -4);
        Check.due("link(1, 0, 3)", x.link(1, 0, 3), -4);
        Check.due("removeLink(0, 1)", x.removeLink(0, 1), -4);
        Check.due("addLink(0, 1, 2, 3)", x.addLink(0, 1, 2, 3), 2);
        Check.due("link(0, 1, 2)", x.link(0, 1, 2), 2);
        Check.due("link(0, 1, 3)", x.link(0, 1, 3), 1);
        Check.due("removeLink(1, 2)", x.removeLink(1, 2), 1);
        Check.due("removeLink(1, 0)", x.removeLink(1, 0), 0);
    }

    private static void removeLinkLeavesEntries() {
        IntervalRouting x = new IntervalRouting();
        x.reset(2);
        x.set(0, 1);
        x.addLink(0, 1, 3, 6);
        x.run(1);
        Check.due("choice(0, 1)", x.choice(0, 1), 1);
        x.removeLink(0, 1);
        Check.due("choice(0, 1) without the link", x.choice(0, 1), -4);
        Check.due("entry(0, 1, 1, 1)", x.entry(0, 1, 1, 1), 6);
        Check.due("entry(0, 1, 1, 5)", x.entry(0, 1, 1, 5), 0);
        Check.due("entries(0, 1, 0)", x.entries(0, 1, 0), 1);
        x.addLink(1, 0, 100, 200);
        Check.due("distance(0, 1, 1), by the old entry", x.distance(0, 1, 1), 6);
    }

    private static void setCostAnswers() {
        IntervalRouting x = new IntervalRouting();
        x.addLink(0, 1, 5, 8);
        int[][] wrong = {{0, 0, 5}, {4, 1, 5}, {1, 4, 5}, {-1, 0, 5}, {0, -1, 5}, {0, 1, 0}, {0, 1, 501},
            {0, 1, MIN}, {0, 1, MAX}, {0, 2, 0}, {0, 2, 501}, {MIN, MAX, 5}};
        for (int[] w : wrong) {
            Check.due("setCost(" + w[0] + ", " + w[1] + ", " + w[2] + ")", x.setCost(w[0], w[1], w[2]), -1);
        }
        Check.due("setCost(0, 1, 4)", x.setCost(0, 1, 4), -2);
        Check.due("setCost(1, 0, 9)", x.setCost(1, 0, 9), -2);
        Check.due("setCost(0, 1, 500)", x.setCost(0, 1, 500), -2);
        Check.due("setCost(0, 2, 5)", x.setCost(0, 2, 5), -4);
        Check.due("setCost(0, 1, 8)", x.setCost(0, 1, 8), 5);
        Check.due("link(1, 0, 2)", x.link(1, 0, 2), 8);
        Check.due("setCost(1, 0, 5)", x.setCost(1, 0, 5), 8);
        Check.due("setCost(0, 1, 6)", x.setCost(0, 1, 6), 5);
        Check.due("trueDistance(1, 0)", x.trueDistance(1, 0), 6);
        x.setUp(0, 1, 0);
        Check.due("setCost(0, 1, 7) of a link that is down", x.setCost(0, 1, 7), 6);
        x.addLink(2, 3, 1, 500);
        Check.due("setCost(2, 3, 500)", x.setCost(2, 3, 500), 1);
        Check.due("setCost(2, 3, 1)", x.setCost(2, 3, 1), 500);
    }

    private static void setUpAnswers() {
        IntervalRouting x = new IntervalRouting();
        x.addLink(0, 1, 5, 8);
        int[][] wrong = {{0, 0, 1}, {4, 1, 1}, {1, 4, 0}, {-1, 0, 0}, {0, 1, 2}, {0, 1, -1}, {0, 2, 2},
            {0, 1, MAX}, {MIN, 1, 1}};
        for (int[] w : wrong) {
            Check.due("setUp(" + w[0] + ", " + w[1] + ", " + w[2] + ")", x.setUp(w[0], w[1], w[2]), -1);
        }
        Check.due("setUp(0, 2, 1)", x.setUp(0, 2, 1), -4);
        Check.due("setUp(0, 2, 0)", x.setUp(0, 2, 0), -4);
        Check.due("setUp(0, 1, 1)", x.setUp(0, 1, 1), 1);
        Check.due("setUp(1, 0, 0)", x.setUp(1, 0, 0), 1);
        Check.due("link(0, 1, 3)", x.link(0, 1, 3), 0);
        Check.due("trueDistance(0, 1)", x.trueDistance(0, 1), -4);
        x.set(0, 1);
        x.run(2);
        Check.due("sent() over a link that is down", x.sent(), 0);
        Check.due("setUp(0, 1, 0)", x.setUp(0, 1, 0), 0);
        Check.due("setUp(0, 1, 1)", x.setUp(0, 1, 1), 0);
        Check.due("link(1, 0, 3)", x.link(1, 0, 3), 1);
        x.run(1);
        Check.due("sent() over the link", x.sent(), 6);
    }

    private static void linkAnswers() {
        IntervalRouting x = new IntervalRouting();
        x.addLink(2, 3, 10, 30);
        x.setCost(2, 3, 20);
        int[][] wrong = {{0, 0, 1}, {4, 1, 1}, {1, 4, 0}, {-1, 0, 0}, {0, -1, 0}, {2, 3, 4}, {2, 3, -1},
            {0, 1, 4}, {2, 3, MAX}, {2, 3, MIN}};
        for (int[] w : wrong) {
            Check.due("link(" + w[0] + ", " + w[1] + ", " + w[2] + ")", x.link(w[0], w[1], w[2]), -1);
        }
        Check.due("link(0, 1, 0)", x.link(0, 1, 0), -4);
        int[] values = {10, 30, 20, 1};
        for (int what = 0; what < 4; what++) {
            Check.due("link(2, 3, " + what + ")", x.link(2, 3, what), values[what]);
            Check.due("link(3, 2, " + what + ")", x.link(3, 2, what), values[what]);
        }
    }

    private static void setAnswers() {
        IntervalRouting x = new IntervalRouting();
        for (int what : new int[] {-1, 4, 5, 10, MIN, MAX}) {
            for (int value : new int[] {0, 1, 2, 100, -1}) {
                Check.due("set(" + what + ", " + value + ")", x.set(what, value), -1);
            }
        }
        for (int[] setting : SETTINGS) {
            int what = setting[0];
            Check.due("set(" + what + ", too little)", x.set(what, setting[1] - 1), -1);
            Check.due("set(" + what + ", too much)", x.set(what, setting[2] + 1), -1);
            Check.due("set(" + what + ", MIN)", x.set(what, MIN), -1);
            Check.due("set(" + what + ", MAX)", x.set(what, MAX), -1);
            Check.due("set(" + what + ", least)", x.set(what, setting[1]), setting[3]);
            Check.due("set(" + what + ", most)", x.set(what, setting[2]), setting[1]);
            Check.due("set(" + what + ", first)", x.set(what, setting[3]), setting[2]);
        }
    }

    private static void settingsStayAtReset() {
        IntervalRouting x = new IntervalRouting();
        for (int[] setting : SETTINGS) {
            x.set(setting[0], setting[2]);
        }
        x.reset(3);
        for (int[] setting : SETTINGS) {
            Check.due("set(" + setting[0] + ", ..) after reset", x.set(setting[0], setting[1]), setting[2]);
        }
    }
}
