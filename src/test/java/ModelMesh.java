import java.util.ArrayList;
import java.util.List;
import java.util.TreeMap;

/** The document's terms once more, sentence by sentence and without care for speed. */
final class ModelMesh {
    private static final int NO_RANK = 10000;

    private static final class Told {
        final Node tree;
        final int version;
        final int rank;

        Told(Node node) {
            tree = node.tree;
            version = node.version;
            rank = node.rank;
        }
    }

    private static final class Node {
        final int number;
        final TreeMap<Integer, Integer> links = new TreeMap<>();
        final TreeMap<Integer, Told> heard = new TreeMap<>();
        boolean root;
        int versionsAsRoot;
        Node tree;
        int version;
        int rank = NO_RANK;
        int lowest;
        Node parent;
        int interval = 1;
        int tellsAt = 1;

        Node(int number) {
            this.number = number;
        }

        int rankBy(int other) {
            return heard.get(other).rank + links.get(other);
        }

        int treeNumber() {
            return tree == null ? -1 : 10 * version + tree.number;
        }
    }

    private final List<Node> nodes = new ArrayList<>();
    private int hysteresis = 0;
    private int increase = 10000;
    private int least = 1;
    private int doublings = 4;
    private int time = 0;
    private int loops = 0;

    ModelMesh() {
        for (int number = 0; number < 10; number++) {
            nodes.add(new Node(number));
        }
    }

    private Node node(int number) {
        if (number < 0 || number > 9) {
            throw new IndexOutOfBoundsException();
        }
        return nodes.get(number);
    }

    private static void argument(boolean right) {
        if (!right) {
            throw new IllegalArgumentException();
        }
    }

    private static void possible(boolean now) {
        if (!now) {
            throw new IllegalStateException();
        }
    }

    void setRules(int newHysteresis, int newIncrease, int newLeast, int newDoublings) {
        argument(newHysteresis >= 0 && newHysteresis <= 100);
        argument(newIncrease >= 0 && newIncrease <= 10000);
        argument(newLeast >= 1 && newLeast <= 8);
        argument(newDoublings >= 0 && newDoublings <= 6);
        hysteresis = newHysteresis;
        increase = newIncrease;
        least = newLeast;
        doublings = newDoublings;
    }

    int link(int one, int other, int cost) {
        Node first = node(one);
        Node second = node(other);
        argument(first != second && cost >= 0 && cost <= 100);
        Integer before = first.links.remove(other);
        second.links.remove(one);
        if (cost == 0) {
            first.heard.remove(other);
            second.heard.remove(one);
        } else {
            first.links.put(other, cost);
            second.links.put(one, cost);
        }
        choose(first);
        choose(second);
        return before == null ? 0 : before;
    }

    int makeRoot(int number) {
        Node node = node(number);
        possible(!node.root);
        node.root = true;
        node.tree = node;
        node.rank = 0;
        node.parent = null;
        return renew(number);
    }

    void endRoot(int number) {
        Node node = node(number);
        possible(node.root);
        node.root = false;
        node.tree = null;
        node.rank = NO_RANK;
        node.parent = null;
        reset(node);
        choose(node);
    }

    int renew(int number) {
        Node node = node(number);
        possible(node.root);
        node.versionsAsRoot++;
        node.version = node.versionsAsRoot;
        reset(node);
        return node.version;
    }

    int pass(int ticks) {
        argument(ticks >= 1 && ticks <= 100);
        int tellings = 0;
        for (int tick = 0; tick < ticks; tick++) {
            time++;
            for (Node node : nodes) {
                if (node.tellsAt == time) {
                    tellings++;
                    tell(node);
                    int greatest = least;
                    for (int time = 0; time < doublings; time++) {
                        greatest += greatest;
                    }
                    node.interval += node.interval;
                    if (node.interval > greatest) {
                        node.interval = greatest;
                    }
                    node.tellsAt = time + node.interval;
                }
            }
        }
        return tellings;
    }

    private void tell(Node teller) {
        for (int number : teller.links.keySet()) {
            Node hearer = node(number);
            hearer.heard.put(teller.number, new Told(teller));
            choose(hearer);
        }
    }

    private void reset(Node node) {
        node.interval = least;
        node.tellsAt = time + least;
    }

    private boolean candidate(Node t, int s) {
        Told told = t.heard.get(s);
        if (told == null || told.rank == NO_RANK) {
            return false;
        }
        for (Told another : t.heard.values()) {
            if (another.tree == told.tree && told.version < another.version) {
                return false;
            }
        }
        if (told.tree == t.tree && told.version < t.version) {
            return false;
        }
        if (t.rankBy(s) >= NO_RANK) {
            return false;
        }
        boolean same = told.tree == t.tree && told.version == t.version;
        boolean asked = same && t.rank < NO_RANK;
        return !asked || told.rank < t.rank && t.rankBy(s) <= t.lowest + increase;
    }

    private void choose(Node t) {
        if (t.root) {
            return;
        }
        TreeMap<Integer, Integer> best = new TreeMap<>();
        for (int s : t.heard.keySet()) {
            if (candidate(t, s)) {
                best.putIfAbsent(t.rankBy(s), s);
            }
        }
        int treeBefore = t.treeNumber();
        int rankBefore = t.rank;
        Node parentBefore = t.parent;
        if (best.isEmpty()) {
            t.parent = null;
            t.rank = NO_RANK;
        } else {
            int chosen = best.firstEntry().getValue();
            if (t.parent != null && candidate(t, t.parent.number)) {
                int less = t.rankBy(t.parent.number) - best.firstKey();
                if (less < Math.max(1, hysteresis)) {
                    chosen = t.parent.number;
                }
            }
            Told told = t.heard.get(chosen);
            int rank = t.rankBy(chosen);
            t.parent = node(chosen);
            boolean other = told.tree != t.tree || told.version != t.version;
            t.lowest = other || rank < t.lowest ? rank : t.lowest;
            t.tree = told.tree;
            t.version = told.version;
            t.rank = rank;
        }
        if (treeBefore != t.treeNumber() || rankBefore != t.rank || parentBefore != t.parent) {
            reset(t);
        }
    }

    int time() {
        return time;
    }

    int rank(int number) {
        return node(number).rank;
    }

    int parent(int number) {
        Node parent = node(number).parent;
        return parent == null ? -1 : parent.number;
    }

    int tree(int number) {
        return node(number).treeNumber();
    }

    int nextTelling(int number) {
        return node(number).tellsAt;
    }

    int heard(int number, int of) {
        node(of);
        Told told = node(number).heard.get(of);
        return told == null ? -1 : told.rank;
    }

    /** The sum over the cheapest of all ways without a node twice. */
    int leastRank(int number) {
        return leastRank(node(number), new ArrayList<>());
    }

    private int leastRank(Node node, List<Node> gone) {
        if (node.root) {
            return 0;
        }
        int sum = NO_RANK;
        gone.add(node);
        for (int other : node.links.keySet()) {
            if (!gone.contains(node(other))) {
                sum = Math.min(sum, node.links.get(other) + leastRank(node(other), gone));
            }
        }
        gone.remove(node);
        return sum;
    }

    int up(int number) {
        Node at = node(number);
        int steps = 0;
        int odd = 0;
        while (!at.root && at.parent != null) {
            if (at.parent.rank >= at.rank) {
                odd++;
            }
            if (odd == 2) {
                loops++;
                return -2;
            }
            at = at.parent;
            steps++;
        }
        return at.root ? steps : -1;
    }

    int loops() {
        return loops;
    }

    int below(int number) {
        Node top = node(number);
        int set = 0;
        for (Node node : nodes) {
            if (node == top || way(node).contains(top)) {
                set += 1 << node.number;
            }
        }
        return set;
    }

    int down(int from, int to) {
        Node top = node(from);
        Node bottom = node(to);
        List<Node> way = way(bottom);
        possible(top != bottom && way.contains(top));
        return way.get(way.indexOf(top) - 1).number;
    }

    /** A node and those above it, each once. */
    private static List<Node> way(Node node) {
        List<Node> way = new ArrayList<>();
        for (Node at = node; at != null && !way.contains(at); at = at.parent) {
            way.add(at);
        }
        return way;
    }
}
