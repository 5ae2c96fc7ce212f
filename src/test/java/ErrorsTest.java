import java.util.ArrayList;
import java.util.List;

/** The part Errors: which error a call returns, that it changes nothing, and arguments of all kinds. */
public final class ErrorsTest {
    private static final int MIN = Nets.MIN;
    private static final int MAX = Nets.MAX;
    private static final int[] NUMBERS = {MIN, MIN + 1, -4000, -501, -16, -2, -1, 0, 1, 2, 3, 4, 5, 6, 7, 8, 9, 10,
        15, 16, 17, 63, 64, 99, 100, 200, 201, 499, 500, 501, 512, 4000, 30000, 30001, 100000, 100001, MAX - 1, MAX};
    private static final int CALLS_OF_AN_OBJECT = 480;

    private interface Call {
        int on(IntervalRouting x);
    }

    private static final class Refused {
        final String name;
        final int due;
        final Call call;

        Refused(String name, int due, Call call) {
            this.name = name;
            this.due = due;
            this.call = call;
        }
    }

    public static void main(String[] args) {
        invalidRatherThanNotPossible();
        invalidRatherThanLimitReached();
        invalidRatherThanNotFound();
        notPossibleRatherThanLimitReached();
        notPossibleOrNotFound();
        refusedCallsChangeNothing();
        refusedCallsOfAFullNetwork();
        refusedCallsAtTheEnd();
        questionsChangeNothing();
        presentTick();
        presentSettings();
        calls512();
        dearCalls512();
        argumentsOfAllKinds();
        Check.end();
    }

    private static void invalidRatherThanNotPossible() {
        Check.sentence("Errors", "INVALID_ARGUMENT is returned rather than NOT_POSSIBLE");
        IntervalRouting x = new IntervalRouting();
        x.addLink(0, 1, 5, 8);
        Check.due("addLink(0, 1, 0, 8), there is one", x.addLink(0, 1, 0, 8), -1);
        Check.due("addLink(0, 1, 8, 5), there is one", x.addLink(0, 1, 8, 5), -1);
        Check.due("addLink(0, 1, 5, 501), there is one", x.addLink(0, 1, 5, 501), -1);
        Check.due("setCost(0, 1, 0), beside the bounds", x.setCost(0, 1, 0), -1);
        Check.due("setCost(0, 1, 501), beside the bounds", x.setCost(0, 1, 501), -1);
        x.setUp(0, 1, 0);
        Check.due("recovery(0, 4), a link is down", x.recovery(0, 4), -1);
        Check.due("recovery(1, 1), a link is down", x.recovery(1, 1), -1);
    }

    private static void invalidRatherThanLimitReached() {
        Check.sentence("Errors", "If several errors apply to a call");
        IntervalRouting x = Nets.full();
        Check.due("addLink(0, 4, 0, 1), there are 16", x.addLink(0, 4, 0, 1), -1);
        Check.due("addLink(0, 4, 1, 501), there are 16", x.addLink(0, 4, 1, 501), -1);
        Check.due("addLink(0, 4, 2, 1), there are 16", x.addLink(0, 4, 2, 1), -1);
        Check.due("addLink(0, 8, 1, 1), there are 16", x.addLink(0, 8, 1, 1), -1);
        Check.due("addLink(4, 4, 1, 1), there are 16", x.addLink(4, 4, 1, 1), -1);
        Check.due("addLink(0, 1, 0, 0), all three", x.addLink(0, 1, 0, 0), -1);
        IntervalRouting y = Nets.atTheEnd();
        Check.due("run(201) at the end", y.run(201), -1);
        Check.due("run(MAX) at the end", y.run(MAX), -1);
    }

    private static void invalidRatherThanNotFound() {
        Check.sentence("Errors", "If several errors apply to a call");
        IntervalRouting x = new IntervalRouting();
        Check.due("removeLink(2, 2)", x.removeLink(2, 2), -1);
        Check.due("setCost(0, 1, 0), no link", x.setCost(0, 1, 0), -1);
        Check.due("setUp(0, 1, 2), no link", x.setUp(0, 1, 2), -1);
        Check.due("link(0, 1, 4), no link", x.link(0, 1, 4), -1);
        Check.due("entry(0, 1, 1, 7), no entry", x.entry(0, 1, 1, 7), -1);
        Check.due("distance(0, 1, 2), unreachable", x.distance(0, 1, 2), -1);
        Check.due("choice(2, 2), no choice", x.choice(2, 2), -1);
        Check.due("journal(0, 4), empty", x.journal(0, 4), -1);
        Check.due("journal(-1, 0), empty", x.journal(-1, 0), -1);
        Check.due("trueDistance(0, 4), no way", x.trueDistance(0, 4), -1);
        Check.due("loss(2, 2), no link", x.loss(2, 2), -1);
        Check.due("recovery(2, 2), no link", x.recovery(2, 2), -1);
    }

    private static void notPossibleRatherThanLimitReached() {
        Check.sentence("Errors", "NOT_POSSIBLE rather than LIMIT_REACHED");
        IntervalRouting x = Nets.full();
        Check.due("addLink(0, 1, 1, 1), there is one and there are 16", x.addLink(0, 1, 1, 1), -2);
        Check.due("addLink(7, 0, 1, 1), there is one and there are 16", x.addLink(7, 0, 1, 1), -2);
        Check.due("addLink(0, 3, 1, 1), there are 16", x.addLink(0, 3, 1, 1), -3);
    }

    private static void notPossibleOrNotFound() {
        Check.sentence("Promise 5", "NOT_POSSIBLE if there is a link, but cost is not between its bounds");
        IntervalRouting x = new IntervalRouting();
        x.addLink(0, 1, 5, 8);
        Check.due("setCost(0, 1, 9), a link", x.setCost(0, 1, 9), -2);
        Check.due("setCost(0, 2, 9), no link", x.setCost(0, 2, 9), -4);
    }

    /** 3 nodes on their way, with a link that is down, something stored, and settings that are not the first ones. */
    private static IntervalRouting underWay() {
        IntervalRouting x = Nets.row(3, 1, 5);
        x.set(0, 3);
        x.set(7, 1);
        x.set(8, 1);
        x.set(1, 40);
        x.run(2);
        x.addLink(0, 2, 2, 6);
        x.store();
        Nets.relink(x, 3, 9);
        x.setCost(0, 1, 4);
        x.run(3);
        x.setUp(0, 2, 0);
        return x;
    }

    private static List<Refused> refused() {
        List<Refused> all = new ArrayList<>();
        all.add(new Refused("reset(1)", -1, x -> x.reset(1)));
        all.add(new Refused("reset(9)", -1, x -> x.reset(9)));
        all.add(new Refused("addLink(0, 3, 1, 1)", -1, x -> x.addLink(0, 3, 1, 1)));
        all.add(new Refused("addLink(1, 1, 1, 1)", -1, x -> x.addLink(1, 1, 1, 1)));
        all.add(new Refused("addLink(0, 1, 2, 1)", -1, x -> x.addLink(0, 1, 2, 1)));
        all.add(new Refused("addLink(1, 0, 2, 7)", -2, x -> x.addLink(1, 0, 2, 7)));
        all.add(new Refused("removeLink(0, 3)", -1, x -> x.removeLink(0, 3)));
        all.add(new Refused("removeLink(2, 2)", -1, x -> x.removeLink(2, 2)));
        all.add(new Refused("setCost(0, 1, 0)", -1, x -> x.setCost(0, 1, 0)));
        all.add(new Refused("setCost(0, 1, 501)", -1, x -> x.setCost(0, 1, 501)));
        all.add(new Refused("setCost(0, 1, 2)", -2, x -> x.setCost(0, 1, 2)));
        all.add(new Refused("setCost(0, 1, 10)", -2, x -> x.setCost(0, 1, 10)));
        all.add(new Refused("setUp(0, 1, 2)", -1, x -> x.setUp(0, 1, 2)));
        all.add(new Refused("setUp(0, 1, -1)", -1, x -> x.setUp(0, 1, -1)));
        all.add(new Refused("setUp(1, 3, 0)", -1, x -> x.setUp(1, 3, 0)));
        all.add(new Refused("link(0, 1, 4)", -1, x -> x.link(0, 1, 4)));
        all.add(new Refused("set(4, 1)", -1, x -> x.set(4, 1)));
        all.add(new Refused("set(5, 1)", -1, x -> x.set(5, 1)));
        all.add(new Refused("set(0, 21)", -1, x -> x.set(0, 21)));
        all.add(new Refused("set(9, 0)", -1, x -> x.set(9, 0)));
        all.add(new Refused("run(0)", -1, x -> x.run(0)));
        all.add(new Refused("run(-1)", -1, x -> x.run(-1)));
        all.add(new Refused("run(201)", -1, x -> x.run(201)));
        all.add(new Refused("entry(0, 1, 1, 7)", -1, x -> x.entry(0, 1, 1, 7)));
        all.add(new Refused("distance(0, 1, 2)", -1, x -> x.distance(0, 1, 2)));
        all.add(new Refused("choice(1, 1)", -1, x -> x.choice(1, 1)));
        all.add(new Refused("entries(0, 1, 4)", -1, x -> x.entries(0, 1, 4)));
        all.add(new Refused("journal(0, 4)", -1, x -> x.journal(0, 4)));
        all.add(new Refused("journal(16, 0)", -4, x -> x.journal(16, 0)));
        all.add(new Refused("trueDistance(0, 3)", -1, x -> x.trueDistance(0, 3)));
        all.add(new Refused("follow(1, 1)", -1, x -> x.follow(1, 1)));
        all.add(new Refused("loss(0, 0)", -1, x -> x.loss(0, 0)));
        all.add(new Refused("recovery(0, 0)", -1, x -> x.recovery(0, 0)));
        all.add(new Refused("recovery(0, 2)", -2, x -> x.recovery(0, 2)));
        return all;
    }

    /** Refused where nodes 0 and 2 are not linked. */
    private static List<Refused> refusedWithoutALink() {
        List<Refused> all = new ArrayList<>();
        all.add(new Refused("removeLink(0, 2)", -4, x -> x.removeLink(0, 2)));
        all.add(new Refused("setCost(0, 2, 5)", -4, x -> x.setCost(0, 2, 5)));
        all.add(new Refused("setUp(0, 2, 1)", -4, x -> x.setUp(0, 2, 1)));
        all.add(new Refused("link(0, 2, 0)", -4, x -> x.link(0, 2, 0)));
        all.add(new Refused("loss(0, 2)", -4, x -> x.loss(0, 2)));
        all.add(new Refused("recovery(0, 2)", -4, x -> x.recovery(0, 2)));
        all.add(new Refused("recall()", -2, x -> x.recall()));
        return all;
    }

    private static void refusedCallsChangeNothing() {
        Check.sentence("Errors", "A call that returns an error changes nothing.");
        List<Integer> due = Look.spend(underWay());
        for (Refused refused : refused()) {
            IntervalRouting x = underWay();
            Check.due(refused.name, refused.call.on(x), refused.due);
            Check.holds("all is as before " + refused.name, Look.spend(x).equals(due));
        }
        due = Look.spend(unstored());
        for (Refused refused : refusedWithoutALink()) {
            IntervalRouting x = unstored();
            Check.due(refused.name, refused.call.on(x), refused.due);
            Check.holds("all is as before " + refused.name, Look.spend(x).equals(due));
        }
    }

    private static IntervalRouting unstored() {
        IntervalRouting x = Nets.row(3, 1, 5);
        x.run(3);
        return x;
    }

    private static void refusedCallsOfAFullNetwork() {
        Check.sentence("Errors", "A call that returns an error changes nothing.");
        IntervalRouting x = Nets.full();
        x.run(3);
        int sent = x.sent();
        Check.due("addLink(0, 4, 1, 1)", x.addLink(0, 4, 1, 1), -3);
        Check.due("addLink(0, 1, 7, 9)", x.addLink(0, 1, 7, 9), -2);
        Check.due("link(0, 4, 0)", x.link(0, 4, 0), -4);
        Check.due("link(0, 1, 1)", x.link(0, 1, 1), 2);
        Check.due("trueDistance(0, 4)", x.trueDistance(0, 4), 2);
        Check.due("sent()", x.sent(), sent);
        Check.due("removeLink(0, 1)", x.removeLink(0, 1), 15);
    }

    private static void refusedCallsAtTheEnd() {
        Check.sentence("Errors", "A call that returns an error changes nothing.");
        IntervalRouting x = Nets.atTheEnd();
        int sent = x.sent();
        Check.due("run(1)", x.run(1), -3);
        Check.due("time()", x.time(), 100000);
        Check.due("sent()", x.sent(), sent);
        Check.due("entry(0, 1, 1, 2), heard at 99999", x.entry(0, 1, 1, 2), 99999 + 13);
        Check.due("journalSize()", x.journalSize(), 2);
    }

    private static void questionsChangeNothing() {
        Check.sentence("Promise 23", "what would come; nothing changes");
        List<Integer> due = Look.spend(underWay());
        IntervalRouting x = underWay();
        for (int a = 0; a < 3; a++) {
            for (int b = 0; b < 3; b++) {
                x.choice(a, b);
                x.follow(a, b);
                x.trueDistance(a, b);
                x.loss(a, b);
            }
        }
        x.meanWidthBits();
        x.wrongPairs();
        x.loops();
        x.settling();
        x.recovery(0, 1);
        Check.holds("all is as before the questions", Look.spend(x).equals(due));
    }

    private static void presentTick() {
        Check.sentence("Errors", "Methods that ask about tables use the present tick counter as t.");
        IntervalRouting x = Nets.row(2, 10, 20);
        x.set(0, 20);
        x.set(1, 2);
        // Node 1 is heard at 19, up to 21; node 0 at 20, up to 22.
        int[][] due = {{18, 0, 0}, {19, 1, 0}, {20, 1, 1}, {21, 1, 1}, {22, 0, 1}, {23, 0, 0}};
        for (int[] d : due) {
            x.run(d[0] - x.time());
            String at = " at " + d[0];
            Check.due("entries(0, 1, 1)" + at, x.entries(0, 1, 1), d[1]);
            Check.due("entries(1, 0, 1)" + at, x.entries(1, 0, 1), d[2]);
            Check.due("distance(0, 1, 0)" + at, x.distance(0, 1, 0), d[1] == 1 ? 10 : -4);
            Check.due("distance(1, 0, 1)" + at, x.distance(1, 0, 1), d[2] == 1 ? 20 : -4);
            Check.due("choice(0, 1)" + at, x.choice(0, 1), d[1] == 1 ? 1 : -4);
            Check.due("follow(1, 0)" + at, x.follow(1, 0), d[2] == 1 ? 1 : -2000);
            Check.due("wrongPairs()" + at, x.wrongPairs(), 2 - d[1] - d[2]);
            Check.due("meanWidthBits()" + at, x.meanWidthBits(),
                d[1] + d[2] == 0 ? -4 : Float.floatToIntBits(10f));
        }
    }

    private static void presentSettings() {
        Check.sentence("Tables", "The choice of a node for a target is the sender of one of its usable entries");
        IntervalRouting x = Nets.fork(Nets.bounds(5, 20), Nets.bounds(10, 18), Nets.bounds(112, 119));
        Check.due("choice(0, 3)", x.choice(0, 3), 2);
        x.set(2, 2);
        Check.due("choice(0, 3) by rule 2, without a tick", x.choice(0, 3), 1);
        x.set(6, 119);
        Check.due("choice(0, 3) below 119, without a tick", x.choice(0, 3), 2);
    }

    private static void calls512() {
        Check.sentence("What it is", "An object is used for at most 512 calls after it has been made");
        IntervalRouting x = Nets.full(); // 18 calls
        for (int i = 1; i <= 493; i++) {
            x.run(200);
        }
        Check.due("run(200), the 512th call", x.run(200), 494 * 200);
    }

    private static void dearCalls512() {
        Check.sentence("What it is", "An object is used for at most 512 calls after it has been made");
        IntervalRouting x = Nets.full();
        x.run(9);
        for (int i = 20; i <= 511; i++) {
            if (i % 2 == 0) {
                Check.due("settling(), call " + i, x.settling(), 0);
            } else {
                Check.due("recovery(0, 1), call " + i, x.recovery(0, 1), 1);
            }
        }
        Check.due("follow(0, 4), the 512th call", x.follow(0, 4), 2);
    }

    /** The same network for the object and the Model, of 8 nodes and 5 links, on its way. */
    private static void begin(IntervalRouting x, Model m) {
        int[][] links = {{0, 1, 1, 5}, {1, 2, 30, 90}, {2, 0, 7, 7}, {2, 7, 499, 500}, {5, 6, 1, 500}};
        x.reset(8);
        m.reset(8);
        x.set(0, 2);
        m.set(0, 2);
        for (int[] l : links) {
            x.addLink(l[0], l[1], l[2], l[3]);
            m.addLink(l[0], l[1], l[2], l[3]);
        }
        x.setUp(5, 6, 0);
        m.setUp(5, 6, 0);
        x.run(6);
        m.run(6);
    }

    private static void argumentsOfAllKinds() {
        Check.sentence("Errors", "If several errors apply to a call");
        IntervalRouting x = null;
        Model m = null;
        int calls = CALLS_OF_AN_OBJECT;
        for (int a : NUMBERS) {
            for (int b : NUMBERS) {
                for (int c : NUMBERS) {
                    if (calls >= CALLS_OF_AN_OBJECT) {
                        x = new IntervalRouting();
                        m = new Model();
                        begin(x, m);
                        calls = 9;
                    }
                    three(x, m, a, b, c);
                    calls += 9;
                }
                two(x, m, a, b);
                calls += 8;
            }
            one(a);
        }
    }

    private static void three(IntervalRouting x, Model m, int a, int b, int c) {
        String all = "(" + a + ", " + b + ", " + c;
        Check.due("setCost" + all + ")", x.setCost(a, b, c), m.setCost(a, b, c));
        Check.due("setUp" + all + ")", x.setUp(a, b, c), m.setUp(a, b, c));
        Check.due("link" + all + ")", x.link(a, b, c), m.link(a, b, c));
        Check.due("distance" + all + ")", x.distance(a, b, c), m.distance(a, b, c));
        Check.due("entries" + all + ")", x.entries(a, b, c), m.entries(a, b, c));
        for (int what = -1; what <= 2; what++) {
            Check.due("entry" + all + ", " + what + ")", x.entry(a, b, c, what), m.entry(a, b, c, what));
        }
    }

    private static void two(IntervalRouting x, Model m, int a, int b) {
        String both = "(" + a + ", " + b + ")";
        Check.due("set" + both, x.set(a, b), m.set(a, b));
        Check.due("choice" + both, x.choice(a, b), m.choice(a, b));
        Check.due("journal" + both, x.journal(a, b), m.journal(a, b));
        Check.due("trueDistance" + both, x.trueDistance(a, b), m.trueDistance(a, b));
        Check.due("follow" + both, x.follow(a, b), m.follow(a, b));
        Check.due("loss" + both, x.loss(a, b), m.loss(a, b));
        Check.due("recovery" + both, x.recovery(a, b), m.recovery(a, b));
        Check.due("removeLink" + both, x.removeLink(a, b), m.removeLink(a, b));
    }

    private static void one(int a) {
        IntervalRouting x = new IntervalRouting();
        Model m = new Model();
        begin(x, m);
        Check.due("run(" + a + ")", x.run(a), m.run(a));
        Check.due("sent() after run(" + a + ")", x.sent(), m.sent());
        for (int lower : NUMBERS) {
            Check.due("addLink(3, 4, " + lower + ", " + a + ")", x.addLink(3, 4, lower, a),
                m.addLink(3, 4, lower, a));
            Check.due("addLink(" + a + ", " + lower + ", 1, 1)", x.addLink(a, lower, 1, 1),
                m.addLink(a, lower, 1, 1));
            Check.due("removeLink(3, 4)", x.removeLink(3, 4), m.removeLink(3, 4));
        }
        Check.due("reset(" + a + ")", x.reset(a), m.reset(a));
        Check.due("trueDistance(0, 5) after reset(" + a + ")", x.trueDistance(0, 5), m.trueDistance(0, 5));
    }
}
