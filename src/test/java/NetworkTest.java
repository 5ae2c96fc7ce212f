/** The part Network and promises 1 to 7: a new object, reset and the links. */
public final class NetworkTest {
    private static final int MIN = Nets.MIN;
    private static final int MAX = Nets.MAX;
    /** Of a network of 4 nodes: no such node, or twice the same one. */
    private static final int[][] NO_PAIRS = {{0, 0}, {3, 3}, {-1, 1}, {1, -1}, {4, 0}, {0, 4}, {4, 4}, {-1, -1},
        {MIN, 0}, {0, MIN}, {MAX, 0}, {0, MAX}, {MIN, MAX}};

    public static void main(String[] args) {
        network();
        newObject();
        reset();
        resetStartsAnew();
        addLink();
        removeLink();
        setCost();
        setUp();
        link();
        Check.end();
    }

    private static void network() {
        nodesAreNumbered();
        oneLinkAtMost();
        sixteenLinks();
        sixteenLinksWhatever();
        allPairsOfSix();
        boundsOfALink();
        trueCostOfALink();
        upAtFirst();
        noLinksAtFirst();
        neighbours();
    }

    private static void newObject() {
        newNetwork();
        newObjectsAreApart();
    }

    private static void reset() {
        resetByNumber();
        resetOutOfRange();
        resetReturnsThePreviousNumber();
        resetLeavesSettings();
        resetThatIsRefused();
    }

    private static void resetStartsAnew() {
        resetLinks();
        resetTables();
        resetTick();
        resetSent();
        resetJournal();
        resetStored();
        resetWhatWasSent();
        resetWhatWasChosen();
    }

    private static void addLink() {
        addLinkReturnsTheNumber();
        addLinkOutOfRange();
        addLinkLower();
        addLinkUpper();
        addLinkWhereOneIs();
        addLinkToAFullNetwork();
    }

    private static void removeLink() {
        removeLinkReturnsTheRest();
        removeLinkOutOfRange();
        removeLinkWhereNoneIs();
        removeLinkLeavesEntries();
        removeLinkForgetsTheLink();
    }

    private static void setCost() {
        setCostReturnsThePrevious();
        setCostRange();
        setCostOutOfRange();
        setCostBesideTheBounds();
        setCostWhereNoneIs();
        setCostOfALinkThatIsDown();
    }

    private static void setUp() {
        setUpReturnsThePrevious();
        setUpRange();
        setUpOutOfRange();
        setUpWhereNoneIs();
    }

    private static void link() {
        linkValues();
        linkOutOfRange();
        linkWhereNoneIs();
    }

    private static void nodesAreNumbered() {
        Check.sentence("Network", "There are n nodes (2 to 8, initially 4), numbered from 0.");
        IntervalRouting x = new IntervalRouting();
        numbers(x, 4);
        for (int nodes = 2; nodes <= 8; nodes++) {
            x.reset(nodes);
            numbers(x, nodes);
        }
    }

    private static void numbers(IntervalRouting x, int nodes) {
        for (int node : new int[] {MIN, -1, nodes, nodes + 1, 8, 9, MAX}) {
            Check.due("trueDistance(" + node + ", 0) of " + nodes, x.trueDistance(node, 0), -1);
            Check.due("trueDistance(0, " + node + ") of " + nodes, x.trueDistance(0, node), -1);
        }
        for (int node = 0; node < nodes; node++) {
            Check.due("trueDistance(" + node + ", " + node + ") of " + nodes, x.trueDistance(node, node), 0);
        }
    }

    private static void oneLinkAtMost() {
        Check.sentence("Network", "Between two different nodes there is at most one link");
        IntervalRouting x = new IntervalRouting();
        x.addLink(2, 1, 3, 4);
        Check.due("addLink(1, 2, 5, 6)", x.addLink(1, 2, 5, 6), -2);
        Check.due("addLink(2, 1, 5, 6)", x.addLink(2, 1, 5, 6), -2);
        Check.due("link(1, 2, 0)", x.link(1, 2, 0), 3);
        Check.due("removeLink(1, 2)", x.removeLink(1, 2), 0);
        Check.due("removeLink(2, 1)", x.removeLink(2, 1), -4);
    }

    private static void sixteenLinks() {
        Check.sentence("Network", "(at most 16 in all)");
        IntervalRouting x = new IntervalRouting();
        x.reset(8);
        for (int i = 0; i < 8; i++) {
            Check.due("addLink " + (2 * i + 1), x.addLink(i, (i + 1) % 8, 1, 2), 2 * i + 1);
            Check.due("addLink " + (2 * i + 2), x.addLink(i, (i + 2) % 8, 1, 2), 2 * i + 2);
        }
        Check.due("addLink(0, 4, 1, 2), the 17th", x.addLink(0, 4, 1, 2), -3);
        Check.due("link(0, 4, 0)", x.link(0, 4, 0), -4);
        Check.due("removeLink(1, 0)", x.removeLink(1, 0), 15);
        Check.due("addLink(0, 4, 1, 2), the 16th", x.addLink(0, 4, 1, 2), 16);
        Check.due("addLink(1, 0, 1, 2), the 17th", x.addLink(1, 0, 1, 2), -3);
    }

    private static void sixteenLinksWhatever() {
        Check.sentence("Network", "(at most 16 in all)");
        IntervalRouting x = Nets.full();
        x.setUp(0, 1, 0);
        Check.due("addLink(0, 4, 1, 2), those that are down count too", x.addLink(0, 4, 1, 2), -3);
        x.store();
        x.removeLink(0, 1);
        x.removeLink(0, 2);
        Check.due("addLink(0, 4, 1, 2)", x.addLink(0, 4, 1, 2), 15);
        x.recall();
        Check.due("addLink(0, 4, 1, 2), 16 are there again", x.addLink(0, 4, 1, 2), -3);
        x.reset(8);
        Check.due("addLink(0, 4, 1, 2), none is there", x.addLink(0, 4, 1, 2), 1);
    }

    private static void allPairsOfSix() {
        Check.sentence("Network", "Between two different nodes there is at most one link (at most 16 in all).");
        IntervalRouting x = new IntervalRouting();
        x.reset(6);
        int links = 0;
        for (int a = 0; a < 6; a++) {
            for (int b = a + 1; b < 6; b++) {
                links++;
                Check.due("addLink(" + a + ", " + b + ", 9, 9)", x.addLink(a, b, 9, 9), links);
            }
        }
        Check.due("addLink(0, 1, 9, 9), all 15 pairs are joined", x.addLink(0, 1, 9, 9), -2);
    }

    private static void boundsOfALink() {
        Check.sentence("Network", "an upper bound (1 to 500 each, the lower one at most the upper one)");
        int[][] allowed = {{1, 1}, {1, 500}, {500, 500}, {1, 2}, {499, 500}, {250, 250}};
        for (int[] b : allowed) {
            IntervalRouting x = new IntervalRouting();
            Check.due("addLink(0, 1, " + b[0] + ", " + b[1] + ")", x.addLink(0, 1, b[0], b[1]), 1);
            Check.due("link(0, 1, 0)", x.link(0, 1, 0), b[0]);
            Check.due("link(0, 1, 1)", x.link(0, 1, 1), b[1]);
        }
        int[][] refused = {{0, 0}, {0, 1}, {-1, 1}, {2, 1}, {500, 499}, {500, 501}, {501, 501}, {1, 501}, {501, 500}};
        for (int[] b : refused) {
            Check.due("addLink(0, 1, " + b[0] + ", " + b[1] + ")",
                new IntervalRouting().addLink(0, 1, b[0], b[1]), -1);
        }
    }

    private static void trueCostOfALink() {
        Check.sentence("Network", "a true cost between them (both included; initially the lower bound)");
        IntervalRouting x = new IntervalRouting();
        x.addLink(0, 1, 5, 8);
        Check.due("link(0, 1, 2), initially", x.link(0, 1, 2), 5);
        int[] due = {-2, 5, 5, 6, 7, -2};
        for (int cost = 4; cost <= 9; cost++) {
            Check.due("setCost(0, 1, " + cost + ")", x.setCost(0, 1, cost), due[cost - 4]);
        }
        Check.due("link(0, 1, 2), at the upper bound", x.link(0, 1, 2), 8);
        x.addLink(2, 3, 7, 7);
        Check.due("setCost(2, 3, 6)", x.setCost(2, 3, 6), -2);
        Check.due("setCost(2, 3, 7), both bounds", x.setCost(2, 3, 7), 7);
        Check.due("setCost(2, 3, 8)", x.setCost(2, 3, 8), -2);
    }

    private static void upAtFirst() {
        Check.sentence("Network", "and is up (initially) or down");
        IntervalRouting x = new IntervalRouting();
        x.addLink(0, 1, 5, 8);
        Check.due("link(0, 1, 3), initially", x.link(0, 1, 3), 1);
        x.setUp(0, 1, 0);
        Check.due("link(0, 1, 3)", x.link(0, 1, 3), 0);
        Nets.relink(x, 5, 8);
        Check.due("link(0, 1, 3) of another link, initially", x.link(0, 1, 3), 1);
    }

    private static void noLinksAtFirst() {
        Check.sentence("Network", "Initially there are no links.");
        IntervalRouting x = new IntervalRouting();
        for (int a = 0; a < 4; a++) {
            for (int b = 0; b < 4; b++) {
                Check.due("link(" + a + ", " + b + ", 0)", x.link(a, b, 0), a == b ? -1 : -4);
            }
        }
        Check.due("addLink(0, 1, 1, 1)", x.addLink(0, 1, 1, 1), 1);
    }

    private static void neighbours() {
        Check.sentence("Network", "Two nodes are neighbours if the link between them exists and is up.");
        IntervalRouting x = Nets.row(2, 1, 2);
        x.run(1);
        Check.due("sent(), neighbours", x.sent(), 2);
        x.setUp(0, 1, 0);
        x.run(1);
        Check.due("sent(), the link is down", x.sent(), 2);
        x.setUp(0, 1, 1);
        x.run(1);
        Check.due("sent(), the link is up", x.sent(), 4);
        x.removeLink(0, 1);
        x.run(1);
        Check.due("sent(), no link", x.sent(), 4);
        x.addLink(0, 1, 1, 2);
        x.run(1);
        Check.due("sent(), a link", x.sent(), 6);
    }

    private static void newNetwork() {
        Check.sentence("Promise 1", "Creates a network of 4 nodes without links at tick 0.");
        IntervalRouting x = new IntervalRouting();
        Check.due("time()", x.time(), 0);
        Check.due("sent()", x.sent(), 0);
        Check.due("journalSize()", x.journalSize(), 0);
        Check.due("meanWidthBits()", x.meanWidthBits(), -4);
        Check.due("wrongPairs()", x.wrongPairs(), 0);
        Check.due("loops()", x.loops(), 0);
        Check.due("settling()", x.settling(), 0);
        Check.due("recall()", x.recall(), -2);
        Check.due("trueDistance(0, 3)", x.trueDistance(0, 3), -4);
        Check.due("trueDistance(0, 4)", x.trueDistance(0, 4), -1);
        Check.due("entries(0, 3, 0)", x.entries(0, 3, 0), 0);
        Check.due("addLink(0, 3, 1, 1)", x.addLink(0, 3, 1, 1), 1);
        Check.due("reset(4)", x.reset(4), 4);
    }

    private static void newObjectsAreApart() {
        Check.sentence("Promise 1", "Creates a network");
        IntervalRouting x = new IntervalRouting();
        IntervalRouting y = new IntervalRouting();
        x.addLink(0, 1, 1, 1);
        x.set(0, 1);
        x.run(3);
        x.store();
        Check.due("y.link(0, 1, 0)", y.link(0, 1, 0), -4);
        Check.due("y.set(0, 1)", y.set(0, 1), 4);
        Check.due("y.time()", y.time(), 0);
        Check.due("y.recall()", y.recall(), -2);
    }

    private static void resetByNumber() {
        Check.sentence("Promise 2", "`nodes`: 2 to 8");
        for (int nodes = 2; nodes <= 8; nodes++) {
            IntervalRouting x = new IntervalRouting();
            Check.due("reset(" + nodes + ")", x.reset(nodes), 4);
            Check.due("addLink(0, " + (nodes - 1) + ", 1, 1)", x.addLink(0, nodes - 1, 1, 1), 1);
            Check.due("addLink(0, " + nodes + ", 1, 1)", x.addLink(0, nodes, 1, 1), -1);
        }
    }

    private static void resetOutOfRange() {
        Check.sentence("Promise 2", "INVALID_ARGUMENT if nodes is out of range");
        IntervalRouting x = new IntervalRouting();
        for (int nodes : new int[] {1, 9, 0, -1, 10, 16, MIN, MAX}) {
            Check.due("reset(" + nodes + ")", x.reset(nodes), -1);
        }
        Check.due("reset(4)", x.reset(4), 4);
    }

    private static void resetReturnsThePreviousNumber() {
        Check.sentence("Promise 2", "Returns the previous number");
        IntervalRouting x = new IntervalRouting();
        Check.due("reset(2)", x.reset(2), 4);
        Check.due("reset(8)", x.reset(8), 2);
        Check.due("reset(8)", x.reset(8), 8);
        Check.due("reset(9)", x.reset(9), -1);
        Check.due("reset(3)", x.reset(3), 8);
    }

    private static void resetLeavesSettings() {
        Check.sentence("Promise 2", "The settings stay.");
        for (int[] setting : SettingsTest.SETTINGS) {
            for (int value : new int[] {setting[1], setting[2]}) {
                IntervalRouting x = new IntervalRouting();
                x.set(setting[0], value);
                x.reset(3);
                Check.due("set(" + setting[0] + ", ..) after reset", x.set(setting[0], setting[1]), value);
            }
        }
    }

    private static void resetThatIsRefused() {
        Check.sentence("Promise 2", "INVALID_ARGUMENT if nodes is out of range");
        IntervalRouting x = Nets.row(8, 1, 1);
        x.run(1);
        x.store();
        x.run(1);
        int sent = x.sent();
        Check.due("reset(9)", x.reset(9), -1);
        Check.due("reset(1)", x.reset(1), -1);
        Check.due("time() after a reset that is refused", x.time(), 2);
        Check.due("sent() after a reset that is refused", x.sent(), sent);
        Check.due("link(6, 7, 0) after a reset that is refused", x.link(6, 7, 0), 1);
        Check.due("choice(6, 7) after a reset that is refused", x.choice(6, 7), 7);
        Check.due("journalSize() after a reset that is refused", x.journalSize(), 16);
        Check.due("recall() after a reset that is refused", x.recall(), 1);
    }

    /** 8 nodes that have sent, with a change in the journal for each pair, and stored. */
    private static IntervalRouting used() {
        IntervalRouting x = Nets.full();
        x.run(5);
        x.store();
        return x;
    }

    private static void resetLinks() {
        Check.sentence("Promise 2", "Starts anew with a number of nodes: no links");
        IntervalRouting x = used();
        x.reset(8);
        for (int a = 0; a < 8; a++) {
            for (int b = 0; b < 8; b++) {
                Check.due("link(" + a + ", " + b + ", 3)", x.link(a, b, 3), a == b ? -1 : -4);
                Check.due("trueDistance(" + a + ", " + b + ")", x.trueDistance(a, b), a == b ? 0 : -4);
            }
        }
        Check.due("addLink(0, 1, 7, 9)", x.addLink(0, 1, 7, 9), 1);
        Check.due("link(1, 0, 0)", x.link(1, 0, 0), 7);
        Check.due("link(1, 0, 1)", x.link(1, 0, 1), 9);
        Check.due("link(1, 0, 2)", x.link(1, 0, 2), 7);
    }

    private static void resetTables() {
        Check.sentence("Promise 2", "empty tables");
        IntervalRouting x = used();
        x.reset(8);
        for (int node = 0; node < 8; node++) {
            for (int target = 0; target < 8; target++) {
                Check.due("entries(" + node + ", " + target + ", 0)", x.entries(node, target, 0),
                    node == target ? -1 : 0);
            }
        }
        x.addLink(0, 1, 7, 9);
        Check.due("entry(0, 1, 1, 0)", x.entry(0, 1, 1, 0), -4);
        Check.due("choice(0, 1)", x.choice(0, 1), -4);
        Check.due("run(1)", x.run(1), 1);
        Check.due("entry(0, 1, 1, 1), a new one", x.entry(0, 1, 1, 1), 9);
        Check.due("entry(0, 1, 1, 3), a new one", x.entry(0, 1, 1, 3), 0);
        Check.due("entry(0, 1, 1, 4), a new one", x.entry(0, 1, 1, 4), 0);
    }

    private static void resetTick() {
        Check.sentence("Promise 2", "tick 0");
        IntervalRouting x = used();
        Check.due("time() before", x.time(), 5);
        x.reset(8);
        Check.due("time()", x.time(), 0);
        Check.due("run(1)", x.run(1), 1);
        IntervalRouting y = Nets.atTheEnd();
        y.reset(2);
        Check.due("run(200), once at tick 100000", y.run(200), 200);
    }

    private static void resetSent() {
        Check.sentence("Promise 2", "no announcements sent");
        IntervalRouting x = used();
        Check.holds("some are sent before", x.sent() > 0);
        x.reset(8);
        Check.due("sent()", x.sent(), 0);
    }

    private static void resetJournal() {
        Check.sentence("Promise 2", "an empty journal");
        IntervalRouting x = used();
        Check.due("journalSize() before, full", x.journalSize(), 16);
        x.reset(2);
        Check.due("journalSize()", x.journalSize(), 0);
        Check.due("journal(0, 0)", x.journal(0, 0), -4);
        x.addLink(0, 1, 1, 1);
        x.run(1);
        Check.due("journalSize(), two new ones", x.journalSize(), 2);
        Check.due("journal(1, 1)", x.journal(1, 1), 0);
        Check.due("journal(2, 0)", x.journal(2, 0), -4);
    }

    private static void resetStored() {
        Check.sentence("Promise 2", "nothing stored");
        IntervalRouting x = used();
        x.reset(8);
        Check.due("recall()", x.recall(), -2);
        Check.due("store()", x.store(), 0);
        Check.due("recall()", x.recall(), 0);
    }

    private static void resetWhatWasSent() {
        Check.sentence("Promise 2", "Starts anew");
        IntervalRouting x = Nets.row(2, 5, 5);
        x.set(7, 1);
        x.run(1);
        x.set(0, 20);
        x.reset(2);
        x.addLink(0, 1, 5, 5);
        x.run(1);
        Check.due("sent(), as both have not sent yet", x.sent(), 2);
    }

    private static void resetWhatWasChosen() {
        Check.sentence("Promise 2", "Starts anew");
        IntervalRouting x = Nets.row(2, 5, 5);
        x.run(2);
        x.reset(2);
        x.run(1);
        Check.due("journalSize(), none is chosen as before", x.journalSize(), 0);
        x.addLink(0, 1, 5, 5);
        x.run(1);
        Check.due("journalSize(), both are chosen anew", x.journalSize(), 2);
    }

    private static void addLinkReturnsTheNumber() {
        Check.sentence("Promise 3", "Returns the number of links");
        IntervalRouting x = new IntervalRouting();
        Check.due("addLink(0, 1, 1, 500)", x.addLink(0, 1, 1, 500), 1);
        Check.due("addLink(3, 2, 500, 500)", x.addLink(3, 2, 500, 500), 2);
        Check.due("addLink(0, 0, 1, 1)", x.addLink(0, 0, 1, 1), -1);
        Check.due("addLink(0, 2, 4, 6)", x.addLink(0, 2, 4, 6), 3);
        x.removeLink(0, 1);
        Check.due("addLink(1, 2, 4, 6)", x.addLink(1, 2, 4, 6), 3);
        x.reset(4);
        Check.due("addLink(1, 2, 4, 6)", x.addLink(1, 2, 4, 6), 1);
    }

    private static void addLinkOutOfRange() {
        Check.sentence("Promise 3", "INVALID_ARGUMENT if an argument is out of range or the nodes are the same");
        IntervalRouting x = new IntervalRouting();
        for (int[] p : NO_PAIRS) {
            Check.due("addLink(" + p[0] + ", " + p[1] + ", 1, 1)", x.addLink(p[0], p[1], 1, 1), -1);
        }
        Check.due("addLink(0, 1, 1, 1), none was added", x.addLink(0, 1, 1, 1), 1);
    }

    private static void addLinkLower() {
        Check.sentence("Promise 3", "`lower`: 1 to 500");
        for (int lower : new int[] {0, -1, 501, MIN, MAX}) {
            Check.due("addLink(0, 1, " + lower + ", 500)", new IntervalRouting().addLink(0, 1, lower, 500), -1);
        }
        Check.due("addLink(0, 1, 1, 500)", new IntervalRouting().addLink(0, 1, 1, 500), 1);
        Check.due("addLink(0, 1, 500, 500)", new IntervalRouting().addLink(0, 1, 500, 500), 1);
    }

    private static void addLinkUpper() {
        Check.sentence("Promise 3", "`upper`: lower to 500");
        for (int upper : new int[] {19, 0, -1, 501, MIN, MAX}) {
            Check.due("addLink(0, 1, 20, " + upper + ")", new IntervalRouting().addLink(0, 1, 20, upper), -1);
        }
        Check.due("addLink(0, 1, 20, 20)", new IntervalRouting().addLink(0, 1, 20, 20), 1);
        Check.due("addLink(0, 1, 20, 500)", new IntervalRouting().addLink(0, 1, 20, 500), 1);
    }

    private static void addLinkWhereOneIs() {
        Check.sentence("Promise 3", "NOT_POSSIBLE if there is a link between them");
        IntervalRouting x = new IntervalRouting();
        x.addLink(0, 1, 5, 9);
        x.setCost(0, 1, 8);
        Check.due("addLink(0, 1, 2, 3)", x.addLink(0, 1, 2, 3), -2);
        Check.due("addLink(1, 0, 2, 3)", x.addLink(1, 0, 2, 3), -2);
        x.setUp(0, 1, 0);
        Check.due("addLink(0, 1, 2, 3), the link is down", x.addLink(0, 1, 2, 3), -2);
        int[] due = {5, 9, 8, 0};
        for (int what = 0; what < 4; what++) {
            Check.due("link(1, 0, " + what + ")", x.link(1, 0, what), due[what]);
        }
    }

    private static void addLinkToAFullNetwork() {
        Check.sentence("Promise 3", "LIMIT_REACHED if there are 16 links");
        IntervalRouting x = Nets.full();
        int[][] others = {{0, 3}, {0, 4}, {0, 5}, {1, 4}, {7, 4}, {3, 6}};
        for (int[] p : others) {
            Check.due("addLink(" + p[0] + ", " + p[1] + ", 1, 1)", x.addLink(p[0], p[1], 1, 1), -3);
            Check.due("link(" + p[0] + ", " + p[1] + ", 0)", x.link(p[0], p[1], 0), -4);
        }
        Check.due("removeLink(0, 1)", x.removeLink(0, 1), 15);
        Check.due("addLink(0, 4, 1, 1), there are 15", x.addLink(0, 4, 1, 1), 16);
    }

    private static void removeLinkReturnsTheRest() {
        Check.sentence("Promise 4", "Returns the number of links that remain");
        IntervalRouting x = Nets.full();
        for (int i = 0; i < 8; i++) {
            Check.due("removeLink " + (2 * i + 1), x.removeLink(i, (i + 1) % 8), 15 - 2 * i);
            Check.due("removeLink " + (2 * i + 2), x.removeLink((i + 2) % 8, i), 14 - 2 * i);
        }
        Check.due("removeLink(0, 1), none is left", x.removeLink(0, 1), -4);
    }

    private static void removeLinkOutOfRange() {
        Check.sentence("Promise 4", "INVALID_ARGUMENT if there is no such node or both are the same");
        IntervalRouting x = new IntervalRouting();
        x.addLink(0, 1, 1, 9);
        for (int[] p : NO_PAIRS) {
            Check.due("removeLink(" + p[0] + ", " + p[1] + ")", x.removeLink(p[0], p[1]), -1);
        }
        Check.due("removeLink(0, 1)", x.removeLink(0, 1), 0);
    }

    private static void removeLinkWhereNoneIs() {
        Check.sentence("Promise 4", "NOT_FOUND if there is no link between them");
        IntervalRouting x = new IntervalRouting();
        Check.due("removeLink(0, 1), an empty network", x.removeLink(0, 1), -4);
        x.addLink(0, 1, 1, 9);
        x.addLink(2, 1, 1, 9);
        Check.due("removeLink(0, 2)", x.removeLink(0, 2), -4);
        Check.due("removeLink(1, 0)", x.removeLink(1, 0), 1);
        Check.due("removeLink(0, 1), once more", x.removeLink(0, 1), -4);
        Check.due("removeLink(1, 0), once more", x.removeLink(1, 0), -4);
        Check.due("removeLink(1, 2)", x.removeLink(1, 2), 0);
    }

    private static void removeLinkLeavesEntries() {
        Check.sentence("Promise 4", "(Entries of tables stay.)");
        IntervalRouting x = Nets.row(2, 3, 6);
        x.run(1);
        x.removeLink(0, 1);
        int[] due = {3, 6, 14, 0, 0, 0, 0};
        for (int what = 0; what < 7; what++) {
            Check.due("entry(0, 1, 1, " + what + ")", x.entry(0, 1, 1, what), due[what]);
        }
        Check.due("entries(0, 1, 0)", x.entries(0, 1, 0), 1);
        Check.due("choice(0, 1) without the link", x.choice(0, 1), -4);
        x.addLink(1, 0, 100, 200);
        Check.due("distance(0, 1, 1), by the old entry", x.distance(0, 1, 1), 6);
    }

    private static void removeLinkForgetsTheLink() {
        Check.sentence("Promise 4", "Removes a link.");
        IntervalRouting x = new IntervalRouting();
        x.addLink(0, 1, 4, 9);
        x.setCost(0, 1, 8);
        x.setUp(0, 1, 0);
        x.removeLink(1, 0);
        for (int what = 0; what < 4; what++) {
            Check.due("link(0, 1, " + what + ")", x.link(0, 1, what), -4);
            Check.due("link(1, 0, " + what + ")", x.link(1, 0, what), -4);
        }
        x.addLink(0, 1, 2, 10);
        int[] due = {2, 10, 2, 1};
        for (int what = 0; what < 4; what++) {
            Check.due("link(0, 1, " + what + ") of another one", x.link(0, 1, what), due[what]);
        }
    }

    private static void setCostReturnsThePrevious() {
        Check.sentence("Promise 5", "Returns the previous true cost");
        IntervalRouting x = new IntervalRouting();
        x.addLink(0, 1, 1, 500);
        Check.due("setCost(0, 1, 500)", x.setCost(0, 1, 500), 1);
        Check.due("setCost(1, 0, 1)", x.setCost(1, 0, 1), 500);
        Check.due("setCost(1, 0, 1), the same", x.setCost(1, 0, 1), 1);
        Check.due("setCost(0, 1, 501)", x.setCost(0, 1, 501), -1);
        Check.due("setCost(0, 1, 30)", x.setCost(0, 1, 30), 1);
        Check.due("link(1, 0, 2)", x.link(1, 0, 2), 30);
        Check.due("link(0, 1, 0)", x.link(0, 1, 0), 1);
        Check.due("link(0, 1, 1)", x.link(0, 1, 1), 500);
    }

    private static void setCostRange() {
        Check.sentence("Promise 5", "`cost`: 1 to 500");
        IntervalRouting x = new IntervalRouting();
        x.addLink(0, 1, 1, 500);
        int[][] due = {{0, -1}, {1, 1}, {2, 1}, {500, 2}, {501, -1}, {499, 500}};
        for (int[] d : due) {
            Check.due("setCost(0, 1, " + d[0] + ")", x.setCost(0, 1, d[0]), d[1]);
        }
    }

    private static void setCostOutOfRange() {
        Check.sentence("Promise 5", "INVALID_ARGUMENT if an argument is out of range or the nodes are the same");
        IntervalRouting x = new IntervalRouting();
        x.addLink(0, 1, 1, 500);
        for (int[] p : NO_PAIRS) {
            Check.due("setCost(" + p[0] + ", " + p[1] + ", 1)", x.setCost(p[0], p[1], 1), -1);
        }
        for (int cost : new int[] {0, -1, 501, MIN, MAX}) {
            Check.due("setCost(0, 1, " + cost + ")", x.setCost(0, 1, cost), -1);
            Check.due("setCost(0, 2, " + cost + "), no link", x.setCost(0, 2, cost), -1);
        }
        Check.due("link(0, 1, 2)", x.link(0, 1, 2), 1);
    }

    private static void setCostBesideTheBounds() {
        Check.sentence("Promise 5", "NOT_POSSIBLE if there is a link, but cost is not between its bounds");
        IntervalRouting x = new IntervalRouting();
        x.addLink(0, 1, 5, 8);
        for (int cost : new int[] {1, 4, 9, 500}) {
            Check.due("setCost(0, 1, " + cost + ")", x.setCost(0, 1, cost), -2);
            Check.due("setCost(1, 0, " + cost + ")", x.setCost(1, 0, cost), -2);
        }
        Check.due("link(0, 1, 2)", x.link(0, 1, 2), 5);
        Check.due("setCost(0, 1, 8)", x.setCost(0, 1, 8), 5);
        Check.due("setCost(0, 1, 5)", x.setCost(0, 1, 5), 8);
    }

    private static void setCostWhereNoneIs() {
        Check.sentence("Promise 5", "NOT_FOUND if there is no link between them");
        IntervalRouting x = new IntervalRouting();
        x.addLink(0, 1, 5, 8);
        for (int cost : new int[] {1, 5, 500}) {
            Check.due("setCost(0, 2, " + cost + ")", x.setCost(0, 2, cost), -4);
        }
        x.removeLink(0, 1);
        Check.due("setCost(0, 1, 5), once removed", x.setCost(0, 1, 5), -4);
        Check.due("setCost(0, 1, 100), once removed", x.setCost(0, 1, 100), -4);
    }

    private static void setCostOfALinkThatIsDown() {
        Check.sentence("Promise 5", "Sets the true cost of a link.");
        IntervalRouting x = new IntervalRouting();
        x.addLink(0, 1, 5, 8);
        x.setUp(0, 1, 0);
        Check.due("setCost(0, 1, 7)", x.setCost(0, 1, 7), 5);
        Check.due("setCost(0, 1, 9)", x.setCost(0, 1, 9), -2);
        Check.due("link(0, 1, 3)", x.link(0, 1, 3), 0);
        x.setUp(0, 1, 1);
        Check.due("trueDistance(1, 0)", x.trueDistance(1, 0), 7);
    }

    private static void setUpReturnsThePrevious() {
        Check.sentence("Promise 6", "Returns the previous value");
        IntervalRouting x = new IntervalRouting();
        x.addLink(0, 1, 5, 8);
        Check.due("setUp(0, 1, 1)", x.setUp(0, 1, 1), 1);
        Check.due("setUp(1, 0, 0)", x.setUp(1, 0, 0), 1);
        Check.due("link(0, 1, 3)", x.link(0, 1, 3), 0);
        Check.due("trueDistance(0, 1)", x.trueDistance(0, 1), -4);
        Check.due("setUp(0, 1, 0)", x.setUp(0, 1, 0), 0);
        Check.due("setUp(0, 1, 2)", x.setUp(0, 1, 2), -1);
        Check.due("setUp(0, 1, 1)", x.setUp(0, 1, 1), 0);
        Check.due("link(1, 0, 3)", x.link(1, 0, 3), 1);
        Check.due("trueDistance(1, 0)", x.trueDistance(1, 0), 5);
    }

    private static void setUpRange() {
        Check.sentence("Promise 6", "`up`: 1 or 0");
        IntervalRouting x = new IntervalRouting();
        x.addLink(0, 1, 5, 8);
        int[][] due = {{-1, -1}, {0, 1}, {2, -1}, {1, 0}, {1, 1}, {3, -1}, {-1, -1}, {0, 1}};
        for (int[] d : due) {
            Check.due("setUp(0, 1, " + d[0] + ")", x.setUp(0, 1, d[0]), d[1]);
        }
    }

    private static void setUpOutOfRange() {
        Check.sentence("Promise 6", "INVALID_ARGUMENT if an argument is out of range or the nodes are the same");
        IntervalRouting x = new IntervalRouting();
        x.addLink(0, 1, 5, 8);
        for (int[] p : NO_PAIRS) {
            Check.due("setUp(" + p[0] + ", " + p[1] + ", 0)", x.setUp(p[0], p[1], 0), -1);
        }
        for (int up : new int[] {-1, 2, MIN, MAX}) {
            Check.due("setUp(0, 1, " + up + ")", x.setUp(0, 1, up), -1);
            Check.due("setUp(0, 2, " + up + "), no link", x.setUp(0, 2, up), -1);
        }
        Check.due("link(0, 1, 3)", x.link(0, 1, 3), 1);
    }

    private static void setUpWhereNoneIs() {
        Check.sentence("Promise 6", "NOT_FOUND if there is no link between them");
        IntervalRouting x = new IntervalRouting();
        x.addLink(0, 1, 5, 8);
        Check.due("setUp(0, 2, 1)", x.setUp(0, 2, 1), -4);
        Check.due("setUp(2, 0, 0)", x.setUp(2, 0, 0), -4);
        x.removeLink(0, 1);
        Check.due("setUp(0, 1, 1), once removed", x.setUp(0, 1, 1), -4);
        Check.due("trueDistance(0, 1)", x.trueDistance(0, 1), -4);
    }

    private static void linkValues() {
        Check.sentence("Promise 7", "0: lower bound; 1: upper bound; 2: true cost; 3: 1 if it is up, else 0");
        IntervalRouting x = new IntervalRouting();
        x.addLink(2, 3, 10, 30);
        x.setCost(2, 3, 20);
        int[] due = {10, 30, 20, 1};
        for (int what = 0; what < 4; what++) {
            Check.due("link(2, 3, " + what + ")", x.link(2, 3, what), due[what]);
            Check.due("link(3, 2, " + what + ")", x.link(3, 2, what), due[what]);
        }
        x.setUp(3, 2, 0);
        Check.due("link(2, 3, 3)", x.link(2, 3, 3), 0);
        Check.due("link(2, 3, 2)", x.link(2, 3, 2), 20);
    }

    private static void linkOutOfRange() {
        Check.sentence("Promise 7", "INVALID_ARGUMENT if an argument is out of range or the nodes are the same");
        IntervalRouting x = new IntervalRouting();
        x.addLink(2, 3, 10, 30);
        for (int[] p : NO_PAIRS) {
            Check.due("link(" + p[0] + ", " + p[1] + ", 0)", x.link(p[0], p[1], 0), -1);
        }
        for (int what : new int[] {-1, 4, MIN, MAX}) {
            Check.due("link(2, 3, " + what + ")", x.link(2, 3, what), -1);
            Check.due("link(0, 1, " + what + "), no link", x.link(0, 1, what), -1);
        }
    }

    private static void linkWhereNoneIs() {
        Check.sentence("Promise 7", "NOT_FOUND if there is no link between them");
        IntervalRouting x = new IntervalRouting();
        x.addLink(2, 3, 10, 30);
        for (int what = 0; what < 4; what++) {
            Check.due("link(0, 3, " + what + ")", x.link(0, 3, what), -4);
            Check.due("link(2, 0, " + what + ")", x.link(2, 0, what), -4);
        }
        x.removeLink(2, 3);
        Check.due("link(2, 3, 0), once removed", x.link(2, 3, 0), -4);
    }
}
