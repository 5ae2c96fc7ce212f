import java.util.Arrays;

/** A simulator of distance-vector routing in which costs are known only as intervals. */
public final class IntervalRouting {
    public static final int INVALID_ARGUMENT = -1;
    public static final int NOT_POSSIBLE = -2;
    public static final int LIMIT_REACHED = -3;
    public static final int NOT_FOUND = -4;

    private static final int LEAST_NODES = 2;
    private static final int MOST_NODES = 8;
    private static final int FIRST_NODES = 4;
    private static final int PAIRS = MOST_NODES * MOST_NODES;
    private static final int SLOTS = PAIRS * MOST_NODES;
    private static final int MOST_LINKS = 16;
    private static final int MOST_COST = 500;
    private static final int MOST_TICKS = 200;
    private static final int LAST_TICK = 100000;
    private static final int JOURNAL_SIZE = 16;
    private static final int JOURNAL_VALUES = 4;

    private static final int PERIOD = 0;
    private static final int LIFETIME = 1;
    private static final int RULE = 2;
    private static final int HORIZON = 3;
    private static final int INFINITY = 6;
    private static final int TRIGGER = 7;
    private static final int GROWTH = 8;
    private static final int HOLD = 9;
    private static final int[] LEAST_SETTING = {1, 1, 0, 0, 0, 0, 100, 0, 1, 1};
    private static final int[] MOST_SETTING = {20, 100, 2, 2, 0, 0, 30000, 1, 20, 50};
    private static final int[] FIRST_SETTING = {4, 13, 0, 1, 0, 0, 4000, 0, 4, 8};

    private static final int REGRET = 1;
    private static final int BEST_CASE = 2;
    private static final int SILENT = 1;
    private static final int POISONED = 2;

    private static final int NONE = -1;
    private static final int UNREACHABLE = -1;
    /** No bound and not UNREACHABLE: the vector of a node that has not sent differs from every other one. */
    private static final int NEVER_SENT = -2;
    private static final int NO_WAY = 1000000;
    private static final int LOOP = -1000;
    private static final int DEAD_END = -2000;
    private static final int QUIET_TICKS = 40;
    private static final int MOST_SETTLING = 200;
    private static final int MOST_RECOVERY = 60;

    private final int[] settings = FIRST_SETTING.clone();
    private final State live = new State();
    private final State stored = new State();
    private final State trial = new State();
    private final Survey survey = new Survey();
    private final Ways ways = new Ways();
    private final boolean[] speaking = new boolean[MOST_NODES];
    private boolean isStored = false;

    public IntervalRouting() {
        live.startAnew(FIRST_NODES);
    }

    public int reset(int nodes) {
        if (nodes < LEAST_NODES || nodes > MOST_NODES) {
            return INVALID_ARGUMENT;
        }
        int previous = live.nodes;
        live.startAnew(nodes);
        isStored = false;
        return previous;
    }

    public int addLink(int a, int b, int lower, int upper) {
        if (!isPair(a, b) || lower < 1 || upper < lower || upper > MOST_COST) {
            return INVALID_ARGUMENT;
        }
        if (live.links.joins(a, b)) {
            return NOT_POSSIBLE;
        }
        if (live.links.count >= MOST_LINKS) {
            return LIMIT_REACHED;
        }
        live.links.insert(a, b, lower, upper);
        return live.links.count;
    }

    public int removeLink(int a, int b) {
        if (!isPair(a, b)) {
            return INVALID_ARGUMENT;
        }
        if (!live.links.joins(a, b)) {
            return NOT_FOUND;
        }
        live.links.delete(a, b);
        return live.links.count;
    }

    public int setCost(int a, int b, int cost) {
        if (!isPair(a, b) || cost < 1 || cost > MOST_COST) {
            return INVALID_ARGUMENT;
        }
        if (!live.links.joins(a, b)) {
            return NOT_FOUND;
        }
        int place = pair(a, b);
        if (cost < live.links.lower[place] || cost > live.links.upper[place]) {
            return NOT_POSSIBLE;
        }
        int previous = live.links.cost[place];
        live.links.putCost(a, b, cost);
        return previous;
    }

    public int setUp(int a, int b, int up) {
        if (!isPair(a, b) || !isBetween(up, 0, 1)) {
            return INVALID_ARGUMENT;
        }
        if (!live.links.joins(a, b)) {
            return NOT_FOUND;
        }
        int previous = live.links.up[pair(a, b)];
        live.links.putUp(a, b, up);
        return previous;
    }

    public int link(int a, int b, int what) {
        if (!isPair(a, b) || !isBetween(what, 0, 3)) {
            return INVALID_ARGUMENT;
        }
        if (!live.links.joins(a, b)) {
            return NOT_FOUND;
        }
        int place = pair(a, b);
        switch (what) {
            case 0:
                return live.links.lower[place];
            case 1:
                return live.links.upper[place];
            case 2:
                return live.links.cost[place];
            default:
                return live.links.up[place];
        }
    }

    public int set(int what, int value) {
        if (!isSetting(what) || !isBetween(value, LEAST_SETTING[what], MOST_SETTING[what])) {
            return INVALID_ARGUMENT;
        }
        int previous = settings[what];
        settings[what] = value;
        return previous;
    }

    public int run(int ticks) {
        if (!isBetween(ticks, 1, MOST_TICKS)) {
            return INVALID_ARGUMENT;
        }
        if (live.tick + ticks > LAST_TICK) {
            return LIMIT_REACHED;
        }
        for (int i = 0; i < ticks; i++) {
            makeTick(live);
        }
        return live.tick;
    }

    public int time() {
        return live.tick;
    }

    public int sent() {
        return live.sent;
    }

    public int entry(int node, int target, int sender, int what) {
        if (!isPair(node, target) || !isPair(node, sender) || !isBetween(what, 0, 6)) {
            return INVALID_ARGUMENT;
        }
        int slot = slot(node, target, sender);
        if (!live.tables.has(slot)) {
            return NOT_FOUND;
        }
        switch (what) {
            case 0:
                return live.tables.lower[slot];
            case 1:
                return live.tables.upper[slot];
            case 2:
                return live.tables.expiry[slot];
            case 3:
                return live.tables.growth[slot];
            case 4:
                return live.tables.heldUpTo[slot];
            case 5:
                return asNumber(live.isUsable(node, target, sender, settings[INFINITY]));
            default:
                return asNumber(live.isDominated(node, target, sender, settings[INFINITY]));
        }
    }

    public int distance(int node, int target, int what) {
        if (!isNode(node) || !isNode(target) || !isBetween(what, 0, 1)) {
            return INVALID_ARGUMENT;
        }
        survey.takeOne(live, settings, node, target);
        int place = pair(node, target);
        if (!survey.reaches(place)) {
            return NOT_FOUND;
        }
        return what == 0 ? survey.lower[place] : survey.upper[place];
    }

    public int choice(int node, int target) {
        if (!isPair(node, target)) {
            return INVALID_ARGUMENT;
        }
        survey.takeOne(live, settings, node, target);
        int chosen = survey.chosen[pair(node, target)];
        return chosen == NONE ? NOT_FOUND : chosen;
    }

    public int entries(int node, int target, int what) {
        if (!isPair(node, target) || !isBetween(what, 0, 3)) {
            return INVALID_ARGUMENT;
        }
        int counted = 0;
        for (int sender = 0; sender < live.nodes; sender++) {
            if (counts(node, target, sender, what)) {
                counted++;
            }
        }
        return counted;
    }

    public int meanWidthBits() {
        survey.take(live, settings);
        int sum = 0;
        int reached = 0;
        for (int node = 0; node < live.nodes; node++) {
            for (int target = 0; target < live.nodes; target++) {
                int place = pair(node, target);
                if (node != target && survey.reaches(place)) {
                    sum += survey.upper[place] - survey.lower[place];
                    reached++;
                }
            }
        }
        return reached == 0 ? NOT_FOUND : bitsOf((float) sum / (float) reached);
    }

    public int journalSize() {
        return live.journal.size();
    }

    public int journal(int index, int what) {
        if (index < 0 || !isBetween(what, 0, JOURNAL_VALUES - 1)) {
            return INVALID_ARGUMENT;
        }
        if (index >= live.journal.size()) {
            return NOT_FOUND;
        }
        return live.journal.value(index, what);
    }

    public int trueDistance(int a, int b) {
        if (!isNode(a) || !isNode(b)) {
            return INVALID_ARGUMENT;
        }
        ways.measure(live.links, live.nodes);
        int place = pair(a, b);
        return ways.exists(place) ? ways.length[place] : NOT_FOUND;
    }

    public int wrongPairs() {
        survey.take(live, settings);
        ways.measure(live.links, live.nodes);
        int wrong = 0;
        for (int node = 0; node < live.nodes; node++) {
            for (int target = 0; target < live.nodes; target++) {
                if (node != target && isWrong(pair(node, target))) {
                    wrong++;
                }
            }
        }
        return wrong;
    }

    public int follow(int node, int target) {
        if (!isPair(node, target)) {
            return INVALID_ARGUMENT;
        }
        survey.take(live, settings);
        return survey.walk(node, target);
    }

    public int loops() {
        survey.take(live, settings);
        return survey.countLoops(live.nodes);
    }

    public int settling() {
        trial.copyFrom(live);
        int quiet = 0;
        for (int ahead = 1; ahead <= MOST_SETTLING + QUIET_TICKS; ahead++) {
            int changes = makeTick(trial);
            quiet = changes == 0 ? quiet + 1 : 0;
            if (quiet == QUIET_TICKS) {
                return ahead - QUIET_TICKS;
            }
        }
        return NOT_FOUND;
    }

    public int loss(int a, int b) {
        if (!isPair(a, b)) {
            return INVALID_ARGUMENT;
        }
        if (!live.links.joins(a, b)) {
            return NOT_FOUND;
        }
        ways.measure(live.links, live.nodes);
        int now = ways.countPairs(live.nodes);
        trial.copyFrom(live);
        trial.links.putUp(a, b, 0);
        ways.measure(trial.links, trial.nodes);
        // A lost link opens no way, so the pairs joined without it are among those joined now.
        return now - ways.countPairs(trial.nodes);
    }

    public int recovery(int a, int b) {
        if (!isPair(a, b)) {
            return INVALID_ARGUMENT;
        }
        if (!live.links.joins(a, b)) {
            return NOT_FOUND;
        }
        if (!live.links.isUp(a, b)) {
            return NOT_POSSIBLE;
        }
        trial.copyFrom(live);
        trial.links.putUp(a, b, 0);
        int first = 1;
        for (int ahead = 1; ahead <= MOST_RECOVERY; ahead++) {
            makeTick(trial);
            // The tick has left the survey of its end.
            if (survey.countLoops(trial.nodes) > 0) {
                first = ahead + 1;
            }
        }
        return first > MOST_RECOVERY ? NOT_FOUND : first;
    }

    public int store() {
        stored.copyFrom(live);
        isStored = true;
        return live.tick;
    }

    public int recall() {
        if (!isStored) {
            return NOT_POSSIBLE;
        }
        live.copyFrom(stored);
        return live.tick;
    }

    private boolean isNode(int number) {
        return number >= 0 && number < live.nodes;
    }

    private boolean isPair(int a, int b) {
        return isNode(a) && isNode(b) && a != b;
    }

    private static boolean isBetween(int value, int least, int most) {
        return value >= least && value <= most;
    }

    private static boolean isSetting(int what) {
        return isBetween(what, PERIOD, HORIZON) || isBetween(what, INFINITY, HOLD);
    }

    private static int asNumber(boolean value) {
        return value ? 1 : 0;
    }

    private static int pair(int a, int b) {
        return a * MOST_NODES + b;
    }

    private static int slot(int node, int target, int sender) {
        return (node * MOST_NODES + target) * MOST_NODES + sender;
    }

    private boolean counts(int node, int target, int sender, int what) {
        int slot = slot(node, target, sender);
        if (!live.tables.has(slot)) {
            return false;
        }
        switch (what) {
            case 0:
                return true;
            case 1:
                return live.isUsable(node, target, sender, settings[INFINITY]);
            case 2:
                return live.isDominated(node, target, sender, settings[INFINITY]);
            default:
                return live.tick <= live.tables.heldUpTo[slot];
        }
    }

    private boolean isWrong(int place) {
        if (!ways.exists(place)) {
            return survey.reaches(place);
        }
        // No way is shorter than 1, so an unreachable target's bounds hold none.
        return !isBetween(ways.length[place], survey.lower[place], survey.upper[place]);
    }

    /** The bits of a float that is 0 or more; made by hand, since LANGUAGE.md lists no Float.floatToIntBits. */
    private static int bitsOf(float value) {
        if (!(value > 0f)) {
            return 0;
        }
        float fraction = value;
        int exponent = 127;
        for (int i = 0; i < 128 && fraction >= 2f; i++) {
            fraction = fraction / 2f;
            exponent++;
        }
        for (int i = 0; i < 128 && fraction < 1f; i++) {
            fraction = fraction * 2f;
            exponent--;
        }
        return (exponent << 23) + (int) (fraction * 8388608f) - 8388608;
    }

    /** Makes a tick and returns how many choices changed; the survey is then that of the tick's end. */
    private int makeTick(State state) {
        state.tick++;
        survey.take(state, settings);
        chooseSpeakers(state);
        // The survey still shows the tables of the beginning while those that hear change them.
        for (int node = 0; node < state.nodes; node++) {
            if (speaking[node]) {
                speak(state, node);
            }
        }
        survey.take(state, settings);
        return noteChanges(state);
    }

    private void chooseSpeakers(State state) {
        for (int node = 0; node < state.nodes; node++) {
            speaking[node] = isDue(state, node)
                || settings[TRIGGER] == 1 && state.vectors.differs(node, state.nodes, survey);
            if (speaking[node]) {
                state.vectors.keep(node, state.nodes, survey);
            }
        }
    }

    private boolean isDue(State state, int node) {
        int period = settings[PERIOD];
        return period > 0 && (state.tick + node) % period == 0;
    }

    private void speak(State state, int sender) {
        for (int neighbour = 0; neighbour < state.nodes; neighbour++) {
            if (!state.links.isUp(sender, neighbour)) {
                continue;
            }
            for (int target = 0; target < state.nodes; target++) {
                if (target != neighbour) {
                    announce(state, sender, neighbour, target);
                }
            }
        }
    }

    private void announce(State state, int sender, int neighbour, int target) {
        int told = pair(sender, target);
        boolean reached = survey.reaches(told);
        if (survey.chosen[told] == neighbour) {
            if (settings[HORIZON] == SILENT) {
                return;
            }
            reached = reached && settings[HORIZON] != POISONED;
        }
        state.sent++;
        int lower = settings[INFINITY];
        int upper = settings[INFINITY];
        if (reached) {
            int passed = pair(neighbour, sender);
            lower = Math.min(lower, survey.lower[told] + state.links.lower[passed]);
            upper = Math.min(upper, survey.upper[told] + state.links.upper[passed]);
        }
        state.tables.receive(slot(neighbour, target, sender), lower, upper, state.tick, settings);
    }

    private int noteChanges(State state) {
        int changes = 0;
        for (int node = 0; node < state.nodes; node++) {
            for (int target = 0; target < state.nodes; target++) {
                int place = pair(node, target);
                int chosen = survey.chosen[place];
                if (chosen != state.lastChosen[place]) {
                    state.lastChosen[place] = chosen;
                    state.journal.add(state.tick, node, target, chosen);
                    changes++;
                }
            }
        }
        return changes;
    }

    /** All that store keeps: the network, the tables, the counters and the journal. */
    private static final class State {
        int nodes;
        int tick;
        int sent;
        final Links links = new Links();
        final Tables tables = new Tables();
        final Vectors vectors = new Vectors();
        final Journal journal = new Journal();
        final int[] lastChosen = new int[PAIRS];

        void startAnew(int count) {
            nodes = count;
            tick = 0;
            sent = 0;
            links.clear();
            tables.clear();
            vectors.clear();
            journal.clear();
            Arrays.fill(lastChosen, NONE);
        }

        void copyFrom(State other) {
            nodes = other.nodes;
            tick = other.tick;
            sent = other.sent;
            links.copyFrom(other.links);
            tables.copyFrom(other.tables);
            vectors.copyFrom(other.vectors);
            journal.copyFrom(other.journal);
            System.arraycopy(other.lastChosen, 0, lastChosen, 0, PAIRS);
        }

        boolean isUsable(int node, int target, int sender, int infinity) {
            return links.isUp(node, sender)
                && tables.isOpen(slot(node, target, sender), tick, infinity);
        }

        boolean isDominated(int node, int target, int sender, int infinity) {
            if (!isUsable(node, target, sender, infinity)) {
                return false;
            }
            for (int other = 0; other < nodes; other++) {
                if (other != sender && isUsable(node, target, other, infinity)
                    && tables.dominates(slot(node, target, other), slot(node, target, sender))) {
                    return true;
                }
            }
            return false;
        }
    }

    /** The links, each written for both orders of its nodes. */
    private static final class Links {
        int count;
        /** 0 where there is no link. */
        final int[] lower = new int[PAIRS];
        final int[] upper = new int[PAIRS];
        final int[] cost = new int[PAIRS];
        /** 1 or 0; also 0 where there is no link. */
        final int[] up = new int[PAIRS];

        boolean joins(int a, int b) {
            return lower[pair(a, b)] > 0;
        }

        /** Whether the nodes are neighbours. */
        boolean isUp(int a, int b) {
            return up[pair(a, b)] == 1;
        }

        void insert(int a, int b, int least, int most) {
            putBounds(a, b, least, most);
            putCost(a, b, least);
            putUp(a, b, 1);
            count++;
        }

        void delete(int a, int b) {
            putBounds(a, b, 0, 0);
            putCost(a, b, 0);
            putUp(a, b, 0);
            count--;
        }

        void putBounds(int a, int b, int least, int most) {
            lower[pair(a, b)] = least;
            lower[pair(b, a)] = least;
            upper[pair(a, b)] = most;
            upper[pair(b, a)] = most;
        }

        void putCost(int a, int b, int value) {
            cost[pair(a, b)] = value;
            cost[pair(b, a)] = value;
        }

        void putUp(int a, int b, int value) {
            up[pair(a, b)] = value;
            up[pair(b, a)] = value;
        }

        void clear() {
            count = 0;
            Arrays.fill(lower, 0);
            Arrays.fill(upper, 0);
            Arrays.fill(cost, 0);
            Arrays.fill(up, 0);
        }

        void copyFrom(Links other) {
            count = other.count;
            System.arraycopy(other.lower, 0, lower, 0, PAIRS);
            System.arraycopy(other.upper, 0, upper, 0, PAIRS);
            System.arraycopy(other.cost, 0, cost, 0, PAIRS);
            System.arraycopy(other.up, 0, up, 0, PAIRS);
        }
    }

    /** The entries of all nodes, a slot for each node, target and sender. */
    private static final class Tables {
        final int[] lower = new int[SLOTS];
        final int[] upper = new int[SLOTS];
        /** An entry's expiry is at least 2, so 0 tells that there is no entry. */
        final int[] expiry = new int[SLOTS];
        final int[] growth = new int[SLOTS];
        final int[] heldUpTo = new int[SLOTS];

        boolean has(int slot) {
            return expiry[slot] > 0;
        }

        boolean isOpen(int slot, int tick, int infinity) {
            return has(slot) && expiry[slot] >= tick && upper[slot] < infinity && tick > heldUpTo[slot];
        }

        boolean dominates(int slot, int other) {
            if (upper[slot] > lower[other]) {
                return false;
            }
            boolean isMutual = upper[other] <= lower[slot];
            // Of two slots of a node and target, the lower one has the lower sender.
            return !isMutual || slot < other;
        }

        void receive(int slot, int least, int most, int tick, int[] settings) {
            if (expiry[slot] < tick) {
                growth[slot] = 0;
                heldUpTo[slot] = 0;
            } else {
                countGrowth(slot, most);
                if (growth[slot] >= settings[GROWTH]) {
                    heldUpTo[slot] = tick + settings[HOLD];
                    growth[slot] = 0;
                }
            }
            lower[slot] = least;
            upper[slot] = most;
            expiry[slot] = tick + settings[LIFETIME];
        }

        void countGrowth(int slot, int most) {
            if (most > upper[slot]) {
                growth[slot]++;
            } else if (most < upper[slot]) {
                growth[slot] = 0;
            }
        }

        void clear() {
            Arrays.fill(lower, 0);
            Arrays.fill(upper, 0);
            Arrays.fill(expiry, 0);
            Arrays.fill(growth, 0);
            Arrays.fill(heldUpTo, 0);
        }

        void copyFrom(Tables other) {
            System.arraycopy(other.lower, 0, lower, 0, SLOTS);
            System.arraycopy(other.upper, 0, upper, 0, SLOTS);
            System.arraycopy(other.expiry, 0, expiry, 0, SLOTS);
            System.arraycopy(other.growth, 0, growth, 0, SLOTS);
            System.arraycopy(other.heldUpTo, 0, heldUpTo, 0, SLOTS);
        }
    }

    /** For each node the vector that it had when it sent the latest time. */
    private static final class Vectors {
        final int[] lower = new int[PAIRS];
        final int[] upper = new int[PAIRS];

        boolean differs(int node, int nodes, Survey survey) {
            for (int target = 0; target < nodes; target++) {
                int place = pair(node, target);
                if (lower[place] != survey.lower[place] || upper[place] != survey.upper[place]) {
                    return true;
                }
            }
            return false;
        }

        void keep(int node, int nodes, Survey survey) {
            for (int target = 0; target < nodes; target++) {
                int place = pair(node, target);
                lower[place] = survey.lower[place];
                upper[place] = survey.upper[place];
            }
        }

        void clear() {
            Arrays.fill(lower, NEVER_SENT);
            Arrays.fill(upper, NEVER_SENT);
        }

        void copyFrom(Vectors other) {
            System.arraycopy(other.lower, 0, lower, 0, PAIRS);
            System.arraycopy(other.upper, 0, upper, 0, PAIRS);
        }
    }

    /** The latest changes of choices, in a ring. */
    private static final class Journal {
        final int[] rows = new int[JOURNAL_SIZE * JOURNAL_VALUES];
        int added;

        int size() {
            return Math.min(added, JOURNAL_SIZE);
        }

        void add(int tick, int node, int target, int chosen) {
            int row = added % JOURNAL_SIZE * JOURNAL_VALUES;
            rows[row] = tick;
            rows[row + 1] = node;
            rows[row + 2] = target;
            rows[row + 3] = chosen;
            added++;
        }

        /** Value what of the change that index newer ones followed; index is below size. */
        int value(int index, int what) {
            return rows[(added - 1 - index) % JOURNAL_SIZE * JOURNAL_VALUES + what];
        }

        void clear() {
            added = 0;
            Arrays.fill(rows, 0);
        }

        void copyFrom(Journal other) {
            added = other.added;
            System.arraycopy(other.rows, 0, rows, 0, JOURNAL_SIZE * JOURNAL_VALUES);
        }
    }

    /** The distances and choices of all nodes, by a state and its tick. */
    private static final class Survey {
        /** Both bounds are UNREACHABLE where there is no distance. */
        final int[] lower = new int[PAIRS];
        final int[] upper = new int[PAIRS];
        /** NONE where there is no choice. */
        final int[] chosen = new int[PAIRS];
        final int[] neighbours = new int[MOST_NODES];
        int near;
        /** The usable entries of the pair that was looked at last, by ascending senders. */
        final int[] senders = new int[MOST_NODES];
        final int[] lowers = new int[MOST_NODES];
        final int[] uppers = new int[MOST_NODES];
        final int[] ranks = new int[MOST_NODES];
        final int[] secondRanks = new int[MOST_NODES];
        int usable;

        boolean reaches(int place) {
            return upper[place] != UNREACHABLE;
        }

        void take(State state, int[] settings) {
            for (int node = 0; node < state.nodes; node++) {
                findNeighbours(state, node);
                for (int target = 0; target < state.nodes; target++) {
                    look(state, settings, node, target);
                }
            }
        }

        void takeOne(State state, int[] settings, int node, int target) {
            findNeighbours(state, node);
            look(state, settings, node, target);
        }

        void findNeighbours(State state, int node) {
            near = 0;
            for (int other = 0; other < state.nodes; other++) {
                if (state.links.isUp(node, other)) {
                    neighbours[near] = other;
                    near++;
                }
            }
        }

        /** Looks at a pair whose node is the one that findNeighbours was called for. */
        void look(State state, int[] settings, int node, int target) {
            int place = pair(node, target);
            gather(state, node, target, settings[INFINITY]);
            putDistance(place, node == target);
            rankAll(settings[RULE]);
            chosen[place] = choose();
        }

        /** Lists the usable entries; a node has none for itself. */
        void gather(State state, int node, int target, int infinity) {
            usable = 0;
            for (int i = 0; i < near; i++) {
                int slot = slot(node, target, neighbours[i]);
                if (state.tables.isOpen(slot, state.tick, infinity)) {
                    senders[usable] = neighbours[i];
                    lowers[usable] = state.tables.lower[slot];
                    uppers[usable] = state.tables.upper[slot];
                    usable++;
                }
            }
        }

        void putDistance(int place, boolean isOwn) {
            int least = isOwn ? 0 : UNREACHABLE;
            int most = isOwn ? 0 : UNREACHABLE;
            for (int i = 0; i < usable; i++) {
                least = i == 0 ? lowers[i] : Math.min(least, lowers[i]);
                most = i == 0 ? uppers[i] : Math.min(most, uppers[i]);
            }
            lower[place] = least;
            upper[place] = most;
        }

        void rankAll(int rule) {
            for (int i = 0; i < usable; i++) {
                if (rule == REGRET) {
                    ranks[i] = regret(i);
                    secondRanks[i] = uppers[i];
                } else if (rule == BEST_CASE) {
                    ranks[i] = lowers[i];
                    secondRanks[i] = uppers[i];
                } else {
                    ranks[i] = uppers[i];
                    secondRanks[i] = lowers[i];
                }
            }
        }

        int choose() {
            int best = NONE;
            for (int i = 0; i < usable; i++) {
                if (best == NONE || isBetter(i, best)) {
                    best = i;
                }
            }
            return best == NONE ? NONE : senders[best];
        }

        /** Strictly better: entries come by ascending senders, and of equal ones the first is chosen. */
        boolean isBetter(int i, int best) {
            return ranks[i] < ranks[best]
                || ranks[i] == ranks[best] && secondRanks[i] < secondRanks[best];
        }

        int regret(int i) {
            int most = 0;
            for (int other = 0; other < usable; other++) {
                if (other != i) {
                    most = Math.max(most, uppers[i] - lowers[other]);
                }
            }
            return most;
        }

        int walk(int node, int target) {
            int here = node;
            int seen = 1 << node;
            for (int steps = 0; steps < MOST_NODES; steps++) {
                int next = chosen[pair(here, target)];
                if (next == NONE) {
                    return DEAD_END - steps;
                }
                if (next == target) {
                    return steps + 1;
                }
                if ((seen >> next & 1) == 1) {
                    return LOOP - steps - 1;
                }
                seen |= 1 << next;
                here = next;
            }
            // Not reached: so many steps meet a node again.
            return LOOP - MOST_NODES;
        }

        int countLoops(int nodes) {
            int counted = 0;
            for (int node = 0; node < nodes; node++) {
                for (int target = 0; target < nodes; target++) {
                    int steps = node == target ? 0 : walk(node, target);
                    if (steps < 0 && steps > DEAD_END) {
                        counted++;
                    }
                }
            }
            return counted;
        }
    }

    /** The true distances of all pairs. */
    private static final class Ways {
        /** NO_WAY or more where there is no way. */
        final int[] length = new int[PAIRS];

        boolean exists(int place) {
            return length[place] < NO_WAY;
        }

        void measure(Links links, int nodes) {
            for (int a = 0; a < nodes; a++) {
                for (int b = 0; b < nodes; b++) {
                    int place = pair(a, b);
                    int direct = links.isUp(a, b) ? links.cost[place] : NO_WAY;
                    length[place] = a == b ? 0 : direct;
                }
            }
            for (int middle = 0; middle < nodes; middle++) {
                shorten(middle, nodes);
            }
        }

        void shorten(int middle, int nodes) {
            for (int a = 0; a < nodes; a++) {
                for (int b = 0; b < nodes; b++) {
                    int by = length[pair(a, middle)] + length[pair(middle, b)];
                    length[pair(a, b)] = Math.min(length[pair(a, b)], by);
                }
            }
        }

        int countPairs(int nodes) {
            int counted = 0;
            for (int a = 0; a < nodes; a++) {
                for (int b = 0; b < nodes; b++) {
                    if (a != b && exists(pair(a, b))) {
                        counted++;
                    }
                }
            }
            return counted;
        }
    }
}
