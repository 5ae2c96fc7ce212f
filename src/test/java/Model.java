import java.util.ArrayList;
import java.util.Arrays;
import java.util.LinkedList;
import java.util.List;
import java.util.Map;
import java.util.TreeMap;

/** The document once more, with maps and lists in place of rows, for ModelTest to compare with. */
final class Model {
    private static final class Link {
        int lower;
        int upper;
        int cost;
        boolean isUp = true;
    }

    private static final class Entry {
        int sender;
        int lower;
        int upper;
        int expiry;
        int growth;
        int held;
    }

    private static final class World {
        int nodes = 4;
        int tick;
        int sent;
        TreeMap<String, Link> links = new TreeMap<>();
        TreeMap<String, Entry> entries = new TreeMap<>();
        LinkedList<int[]> journal = new LinkedList<>();
        TreeMap<String, Integer> choices = new TreeMap<>();
        TreeMap<Integer, String> vectors = new TreeMap<>();

        World copy() {
            World w = new World();
            w.nodes = nodes;
            w.tick = tick;
            w.sent = sent;
            for (Map.Entry<String, Link> pair : links.entrySet()) {
                Link old = pair.getValue();
                Link link = new Link();
                link.lower = old.lower;
                link.upper = old.upper;
                link.cost = old.cost;
                link.isUp = old.isUp;
                w.links.put(pair.getKey(), link);
            }
            for (Map.Entry<String, Entry> pair : entries.entrySet()) {
                Entry old = pair.getValue();
                Entry entry = new Entry();
                entry.sender = old.sender;
                entry.lower = old.lower;
                entry.upper = old.upper;
                entry.expiry = old.expiry;
                entry.growth = old.growth;
                entry.held = old.held;
                w.entries.put(pair.getKey(), entry);
            }
            for (int[] change : journal) {
                w.journal.add(change.clone());
            }
            w.choices.putAll(choices);
            w.vectors.putAll(vectors);
            return w;
        }
    }

    private final int[] settings = {4, 13, 0, 1, -1, -1, 4000, 0, 4, 8};
    private World world = new World();
    private World kept = null;

    private boolean no(int node) {
        return node < 0 || node >= world.nodes;
    }

    private static String key(int a, int b) {
        return Math.min(a, b) + "-" + Math.max(a, b);
    }

    int reset(int nodes) {
        if (nodes < 2 || nodes > 8) {
            return -1;
        }
        int previous = world.nodes;
        world = new World();
        world.nodes = nodes;
        kept = null;
        return previous;
    }

    int addLink(int a, int b, int lower, int upper) {
        if (no(a) || no(b) || a == b || lower < 1 || lower > 500 || upper < lower || upper > 500) {
            return -1;
        }
        if (world.links.containsKey(key(a, b))) {
            return -2;
        }
        if (world.links.size() == 16) {
            return -3;
        }
        Link link = new Link();
        link.lower = lower;
        link.upper = upper;
        link.cost = lower;
        world.links.put(key(a, b), link);
        return world.links.size();
    }

    int removeLink(int a, int b) {
        if (no(a) || no(b) || a == b) {
            return -1;
        }
        return world.links.remove(key(a, b)) == null ? -4 : world.links.size();
    }

    int setCost(int a, int b, int cost) {
        if (no(a) || no(b) || a == b || cost < 1 || cost > 500) {
            return -1;
        }
        Link link = world.links.get(key(a, b));
        if (link == null) {
            return -4;
        }
        if (cost < link.lower || cost > link.upper) {
            return -2;
        }
        int previous = link.cost;
        link.cost = cost;
        return previous;
    }

    int setUp(int a, int b, int up) {
        if (no(a) || no(b) || a == b || up != 0 && up != 1) {
            return -1;
        }
        Link link = world.links.get(key(a, b));
        if (link == null) {
            return -4;
        }
        int previous = link.isUp ? 1 : 0;
        link.isUp = up == 1;
        return previous;
    }

    int link(int a, int b, int what) {
        if (no(a) || no(b) || a == b || what < 0 || what > 3) {
            return -1;
        }
        Link link = world.links.get(key(a, b));
        return link == null ? -4 : new int[] {link.lower, link.upper, link.cost, link.isUp ? 1 : 0}[what];
    }

    int set(int what, int value) {
        String[] ranges = {"1 20", "1 100", "0 2", "0 2", "", "", "100 30000", "0 1", "1 20", "1 50"};
        if (what < 0 || what > 9 || ranges[what].isEmpty()) {
            return -1;
        }
        String[] range = ranges[what].split(" ");
        if (value < Integer.parseInt(range[0]) || value > Integer.parseInt(range[1])) {
            return -1;
        }
        int previous = settings[what];
        settings[what] = value;
        return previous;
    }

    private static boolean neighbours(World w, int a, int b) {
        Link link = w.links.get(key(a, b));
        return link != null && link.isUp;
    }

    private boolean usable(World w, int node, Entry e) {
        return e.expiry >= w.tick && e.upper < settings[6] && w.tick > e.held && neighbours(w, node, e.sender);
    }

    private static String place(int node, int target, int sender) {
        return node + " " + target + " " + sender;
    }

    private static List<Entry> all(World w, int node, int target) {
        List<Entry> found = new ArrayList<>();
        for (int sender = 0; sender < w.nodes; sender++) {
            Entry e = w.entries.get(place(node, target, sender));
            if (e != null) {
                found.add(e);
            }
        }
        return found;
    }

    private List<Entry> usable(World w, int node, int target) {
        List<Entry> found = all(w, node, target);
        found.removeIf(e -> !usable(w, node, e));
        return found;
    }

    /** Null if the target is unreachable. */
    private int[] distance(World w, int node, int target) {
        if (node == target) {
            return new int[] {0, 0};
        }
        List<Entry> found = usable(w, node, target);
        if (found.isEmpty()) {
            return null;
        }
        return new int[] {found.stream().mapToInt(e -> e.lower).min().getAsInt(),
            found.stream().mapToInt(e -> e.upper).min().getAsInt()};
    }

    private int choice(World w, int node, int target) {
        List<Entry> found = usable(w, node, target);
        int best = -1;
        long bestKey = Long.MAX_VALUE;
        for (Entry e : found) {
            int regret = found.stream().filter(o -> o != e).mapToInt(o -> o.lower).min().orElse(Integer.MAX_VALUE);
            regret = Math.max(0, e.upper - regret);
            long[] firsts = {e.upper, regret, e.lower};
            long[] seconds = {e.lower, e.upper, e.upper};
            long key = (firsts[settings[2]] * 1000000 + seconds[settings[2]]) * 10 + e.sender;
            if (key < bestKey) {
                bestKey = key;
                best = e.sender;
            }
        }
        return best;
    }

    private boolean dominated(World w, int node, int target, Entry e) {
        List<Entry> found = usable(w, node, target);
        if (!found.contains(e)) {
            return false;
        }
        for (Entry o : found) {
            boolean byOther = o != e && o.upper <= e.lower;
            boolean byThis = o != e && e.upper <= o.lower;
            if (byOther && (!byThis || e.sender > o.sender)) {
                return true;
            }
        }
        return false;
    }

    /** One tick; returns how many choices changed. */
    private int tick(World w) {
        w.tick++;
        List<int[]> announced = new ArrayList<>();
        for (int node = 0; node < w.nodes; node++) {
            StringBuilder text = new StringBuilder();
            for (int target = 0; target < w.nodes; target++) {
                text.append(Arrays.toString(distance(w, node, target)));
            }
            String vector = text.toString();
            boolean isDue = (w.tick + node) % settings[0] == 0;
            if (isDue || settings[7] == 1 && !vector.equals(w.vectors.get(node))) {
                w.vectors.put(node, vector);
                announce(w, node, announced);
            }
        }
        for (int[] a : announced) {
            receive(w, a);
        }
        w.sent += announced.size();
        int changes = 0;
        for (int node = 0; node < w.nodes; node++) {
            for (int target = 0; target < w.nodes; target++) {
                int now = node == target ? -1 : choice(w, node, target);
                if (now != w.choices.getOrDefault(node + " " + target, -1)) {
                    w.choices.put(node + " " + target, now);
                    w.journal.addFirst(new int[] {w.tick, node, target, now});
                    changes++;
                }
            }
        }
        while (w.journal.size() > 16) {
            w.journal.removeLast();
        }
        return changes;
    }

    private void announce(World w, int sender, List<int[]> announced) {
        for (int neighbour = 0; neighbour < w.nodes; neighbour++) {
            if (neighbour == sender || !neighbours(w, sender, neighbour)) {
                continue;
            }
            Link link = w.links.get(key(sender, neighbour));
            for (int target = 0; target < w.nodes; target++) {
                boolean isBack = target != sender && choice(w, sender, target) == neighbour;
                if (target == neighbour || settings[3] == 1 && isBack) {
                    continue;
                }
                int[] told = settings[3] == 2 && isBack ? null : distance(w, sender, target);
                int lower = told == null ? settings[6] : Math.min(settings[6], told[0] + link.lower);
                int upper = told == null ? settings[6] : Math.min(settings[6], told[1] + link.upper);
                announced.add(new int[] {neighbour, target, sender, lower, upper});
            }
        }
    }

    private void receive(World w, int[] a) {
        Entry old = w.entries.get(place(a[0], a[1], a[2]));
        Entry e = new Entry();
        e.sender = a[2];
        e.lower = a[3];
        e.upper = a[4];
        e.expiry = w.tick + settings[1];
        if (old != null && old.expiry >= w.tick) {
            e.growth = e.upper > old.upper ? old.growth + 1 : e.upper < old.upper ? 0 : old.growth;
            e.held = old.held;
            if (e.growth >= settings[8]) {
                e.growth = 0;
                e.held = w.tick + settings[9];
            }
        }
        w.entries.put(place(a[0], a[1], a[2]), e);
    }

    int run(int ticks) {
        if (ticks < 1 || ticks > 200) {
            return -1;
        }
        if (world.tick + ticks > 100000) {
            return -3;
        }
        for (int i = 0; i < ticks; i++) {
            tick(world);
        }
        return world.tick;
    }

    int time() {
        return world.tick;
    }

    int sent() {
        return world.sent;
    }

    int entry(int node, int target, int sender, int what) {
        if (no(node) || no(target) || no(sender) || target == node || sender == node || what < 0 || what > 6) {
            return -1;
        }
        Entry e = world.entries.get(place(node, target, sender));
        if (e == null) {
            return -4;
        }
        return new int[] {e.lower, e.upper, e.expiry, e.growth, e.held, usable(world, node, e) ? 1 : 0,
            dominated(world, node, target, e) ? 1 : 0}[what];
    }

    int distance(int node, int target, int what) {
        if (no(node) || no(target) || what < 0 || what > 1) {
            return -1;
        }
        int[] found = distance(world, node, target);
        return found == null ? -4 : found[what];
    }

    int choice(int node, int target) {
        if (no(node) || no(target) || node == target) {
            return -1;
        }
        int found = choice(world, node, target);
        return found < 0 ? -4 : found;
    }

    int entries(int node, int target, int what) {
        if (no(node) || no(target) || node == target || what < 0 || what > 3) {
            return -1;
        }
        int[] counted = new int[4];
        for (Entry e : all(world, node, target)) {
            counted[0]++;
            counted[1] += usable(world, node, e) ? 1 : 0;
            counted[2] += dominated(world, node, target, e) ? 1 : 0;
            counted[3] += e.held >= world.tick ? 1 : 0;
        }
        return counted[what];
    }

    int meanWidthBits() {
        int sum = 0;
        int number = 0;
        for (int node = 0; node < world.nodes; node++) {
            for (int target = 0; target < world.nodes; target++) {
                int[] found = distance(world, node, target);
                if (node != target && found != null) {
                    sum += found[1] - found[0];
                    number++;
                }
            }
        }
        return number == 0 ? -4 : Float.floatToIntBits((float) sum / (float) number);
    }

    int journalSize() {
        return world.journal.size();
    }

    int journal(int index, int what) {
        if (index < 0 || what < 0 || what > 3) {
            return -1;
        }
        return index >= world.journal.size() ? -4 : world.journal.get(index)[what];
    }

    /** By ever better ways, as Bellman and Ford do; -4 if there is none. */
    private int truth(World w, int a, int b) {
        long[] best = new long[w.nodes];
        Arrays.fill(best, Integer.MAX_VALUE);
        best[a] = 0;
        for (int round = 0; round < w.nodes; round++) {
            for (int i = 0; i < w.nodes; i++) {
                for (int j = 0; j < w.nodes; j++) {
                    if (i != j && neighbours(w, i, j)) {
                        best[j] = Math.min(best[j], best[i] + w.links.get(key(i, j)).cost);
                    }
                }
            }
        }
        return best[b] >= Integer.MAX_VALUE ? -4 : (int) best[b];
    }

    int trueDistance(int a, int b) {
        return no(a) || no(b) ? -1 : truth(world, a, b);
    }

    int wrongPairs() {
        int wrong = 0;
        for (int a = 0; a < world.nodes; a++) {
            for (int b = 0; b < world.nodes; b++) {
                int[] known = distance(world, a, b);
                int truth = truth(world, a, b);
                boolean isRight = known == null ? truth == -4
                    : truth != -4 && known[0] <= truth && truth <= known[1];
                wrong += a == b || isRight ? 0 : 1;
            }
        }
        return wrong;
    }

    private int follow(World w, int node, int target) {
        List<Integer> way = new ArrayList<>();
        way.add(node);
        for (int here = node; here != target; ) {
            int next = choice(w, here, target);
            if (next < 0) {
                return -2000 - (way.size() - 1);
            }
            if (way.contains(next)) {
                return -1000 - way.size();
            }
            way.add(next);
            here = next;
        }
        return way.size() - 1;
    }

    int follow(int node, int target) {
        return no(node) || no(target) || node == target ? -1 : follow(world, node, target);
    }

    private int loops(World w) {
        int counted = 0;
        for (int a = 0; a < w.nodes; a++) {
            for (int b = 0; b < w.nodes; b++) {
                int way = a == b ? 0 : follow(w, a, b);
                counted += way < 0 && way > -2000 ? 1 : 0;
            }
        }
        return counted;
    }

    int loops() {
        return loops(world);
    }

    int settling() {
        World w = world.copy();
        boolean[] changes = new boolean[241];
        for (int i = 1; i <= 240; i++) {
            changes[i] = tick(w) > 0;
        }
        for (int k = 0; k <= 200; k++) {
            boolean isQuiet = true;
            for (int i = k + 1; i <= k + 40; i++) {
                isQuiet &= !changes[i];
            }
            if (isQuiet) {
                return k;
            }
        }
        return -4;
    }

    int loss(int a, int b) {
        if (no(a) || no(b) || a == b) {
            return -1;
        }
        if (!world.links.containsKey(key(a, b))) {
            return -4;
        }
        World w = world.copy();
        w.links.get(key(a, b)).isUp = false;
        int lost = 0;
        for (int i = 0; i < w.nodes; i++) {
            for (int j = 0; j < w.nodes; j++) {
                lost += truth(world, i, j) != -4 && truth(w, i, j) == -4 ? 1 : 0;
            }
        }
        return lost;
    }

    int recovery(int a, int b) {
        if (no(a) || no(b) || a == b) {
            return -1;
        }
        if (!world.links.containsKey(key(a, b))) {
            return -4;
        }
        if (!world.links.get(key(a, b)).isUp) {
            return -2;
        }
        World w = world.copy();
        w.links.get(key(a, b)).isUp = false;
        boolean[] isLooping = new boolean[61];
        for (int k = 1; k <= 60; k++) {
            tick(w);
            isLooping[k] = loops(w) > 0;
        }
        for (int k = 1; k <= 60; k++) {
            boolean isClear = true;
            for (int i = k; i <= 60; i++) {
                isClear &= !isLooping[i];
            }
            if (isClear) {
                return k;
            }
        }
        return -4;
    }

    int store() {
        kept = world.copy();
        return world.tick;
    }

    int recall() {
        if (kept == null) {
            return -2;
        }
        world = kept.copy();
        return world.tick;
    }
}
