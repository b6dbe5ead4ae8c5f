/** A routing mesh of meters. */
public final class RankMesh {
    /** No rank. */
    public static final int NO_RANK = 10000;

    private static final int NODES = 10;
    private static final int NONE = -1;
    private static final int UNHEARD = -1;

    private static final int MOST_COST = 100;
    private static final int MOST_HYSTERESIS = 100;
    private static final int MOST_INCREASE = 10000;
    private static final int MOST_LEAST_INTERVAL = 8;
    private static final int MOST_DOUBLINGS = 6;
    private static final int MOST_TICKS = 100;

    private static final int NO_WAY_UP = -1;
    private static final int LOOP_FOUND = -2;
    /* From one odd step to the next the ranks fall, so no node comes twice there. */
    private static final int MOST_STEPS = 2 * NODES;

    private int hysteresis = 0;
    private int increase = MOST_INCREASE;
    private int leastInterval = 1;
    private int doublings = 4;
    private int now = 0;
    private int droppedPackets = 0;

    /* The cost of the link of two nodes, 0 for no link, in both directions. */
    private final int[][] costOf = new int[NODES][NODES];

    /* What a node (the row) has heard of another one (the column). */
    private final int[][] heardTree = new int[NODES][NODES];
    private final int[][] heardVersion = new int[NODES][NODES];
    private final int[][] heardRank = new int[NODES][NODES];

    private final boolean[] isRoot = new boolean[NODES];
    private final int[] lastRootVersion = new int[NODES];
    private final int[] treeOf = new int[NODES];
    private final int[] versionOf = new int[NODES];
    private final int[] rankOf = new int[NODES];
    private final int[] lowestRank = new int[NODES];
    private final int[] parentOf = new int[NODES];
    private final int[] interval = new int[NODES];
    private final int[] tellsAt = new int[NODES];

    /* Kept only so that no call has to make an array. */
    private final int[] wayCost = new int[NODES];

    public RankMesh() {
        for (int node = 0; node < NODES; node++) {
            clearNode(node);
            resetTimer(node);
            for (int other = 0; other < NODES; other++) {
                forget(node, other);
            }
        }
    }

    // ---- the mesh

    public void setRules(int hysteresis, int increase, int least, int doublings)
            throws IllegalArgumentException {
        requireRange(hysteresis, 0, MOST_HYSTERESIS);
        requireRange(increase, 0, MOST_INCREASE);
        requireRange(least, 1, MOST_LEAST_INTERVAL);
        requireRange(doublings, 0, MOST_DOUBLINGS);
        this.hysteresis = hysteresis;
        this.increase = increase;
        this.leastInterval = least;
        this.doublings = doublings;
    }

    public int link(int one, int other, int cost)
            throws IndexOutOfBoundsException, IllegalArgumentException {
        requireNode(one);
        requireNode(other);
        if (one == other) {
            throw new IllegalArgumentException("a node is not linked to itself");
        }
        requireRange(cost, 0, MOST_COST);
        int before = costOf[one][other];
        costOf[one][other] = cost;
        costOf[other][one] = cost;
        if (cost == 0) {
            forget(one, other);
            forget(other, one);
        }
        choose(one);
        choose(other);
        return before;
    }

    public int makeRoot(int node) throws IndexOutOfBoundsException, IllegalStateException {
        requireNode(node);
        if (isRoot[node]) {
            throw new IllegalStateException("the node is a root");
        }
        isRoot[node] = true;
        treeOf[node] = node;
        rankOf[node] = 0;
        lowestRank[node] = 0;
        parentOf[node] = NONE;
        return beginVersion(node);
    }

    public void endRoot(int node) throws IndexOutOfBoundsException, IllegalStateException {
        requireRoot(node);
        isRoot[node] = false;
        clearNode(node);
        resetTimer(node);
        choose(node);
    }

    public int renew(int node) throws IndexOutOfBoundsException, IllegalStateException {
        requireRoot(node);
        return beginVersion(node);
    }

    public int pass(int ticks) throws IllegalArgumentException {
        requireRange(ticks, 1, MOST_TICKS);
        int tellings = 0;
        for (int tick = 0; tick < ticks; tick++) {
            tellings += passTick();
        }
        return tellings;
    }

    public int time() {
        return now;
    }

    // ---- nodes

    public int rank(int node) throws IndexOutOfBoundsException {
        requireNode(node);
        return rankOf[node];
    }

    public int parent(int node) throws IndexOutOfBoundsException {
        requireNode(node);
        return parentOf[node];
    }

    public int tree(int node) throws IndexOutOfBoundsException {
        requireNode(node);
        return treeOf[node] == NONE ? NONE : 10 * versionOf[node] + treeOf[node];
    }

    public int nextTelling(int node) throws IndexOutOfBoundsException {
        requireNode(node);
        return tellsAt[node];
    }

    public int heard(int node, int of) throws IndexOutOfBoundsException {
        requireNode(node);
        requireNode(of);
        return heardRank[node][of];
    }

    public int leastRank(int node) throws IndexOutOfBoundsException {
        requireNode(node);
        for (int each = 0; each < NODES; each++) {
            wayCost[each] = isRoot[each] ? 0 : NO_RANK;
        }
        // A cheapest way has fewer links than there are nodes.
        for (int links = 1; links < NODES; links++) {
            lowerWayCosts();
        }
        return wayCost[node];
    }

    // ---- packets

    public int up(int node) throws IndexOutOfBoundsException {
        requireNode(node);
        int at = node;
        boolean wasOdd = false;
        for (int steps = 0; steps <= MOST_STEPS; steps++) {
            if (isRoot[at]) {
                return steps;
            }
            int next = parentOf[at];
            if (!isNode(next)) {
                return NO_WAY_UP;
            }
            boolean odd = rankOf[next] >= rankOf[at];
            if (odd && wasOdd) {
                break;
            }
            wasOdd = wasOdd || odd;
            at = next;
        }
        droppedPackets++;
        return LOOP_FOUND;
    }

    public int loops() {
        return droppedPackets;
    }

    public int below(int node) throws IndexOutOfBoundsException {
        requireNode(node);
        int set = 1 << node;
        // Each round goes one parent further, and no way of parents needs more rounds.
        for (int round = 1; round < NODES; round++) {
            set |= childrenOf(set);
        }
        return set;
    }

    public int down(int from, int to) throws IndexOutOfBoundsException, IllegalStateException {
        requireNode(from);
        requireNode(to);
        if (from == to) {
            throw new IllegalStateException("the node is not below itself");
        }
        int at = to;
        for (int steps = 0; steps < NODES && isNode(at); steps++) {
            if (parentOf[at] == from) {
                return at;
            }
            at = parentOf[at];
        }
        throw new IllegalStateException("the node is not below the other one");
    }

    // ---- arguments

    private static boolean isNode(int node) {
        return node >= 0 && node < NODES;
    }

    private static void requireNode(int node) {
        if (!isNode(node)) {
            throw new IndexOutOfBoundsException("no such node");
        }
    }

    private void requireRoot(int node) {
        requireNode(node);
        if (!isRoot[node]) {
            throw new IllegalStateException("the node is no root");
        }
    }

    private static void requireRange(int value, int least, int most) {
        if (value < least || value > most) {
            throw new IllegalArgumentException("an argument is out of range");
        }
    }

    // ---- states of a node

    private void clearNode(int node) {
        treeOf[node] = NONE;
        versionOf[node] = 0;
        rankOf[node] = NO_RANK;
        lowestRank[node] = NO_RANK;
        parentOf[node] = NONE;
    }

    private int beginVersion(int root) {
        lastRootVersion[root]++;
        versionOf[root] = lastRootVersion[root];
        resetTimer(root);
        return versionOf[root];
    }

    private void forget(int node, int other) {
        heardTree[node][other] = NONE;
        heardVersion[node][other] = 0;
        heardRank[node][other] = UNHEARD;
    }

    // ---- timers and telling

    private void resetTimer(int node) {
        interval[node] = leastInterval;
        tellsAt[node] = now + leastInterval;
    }

    private void lengthenTimer(int node) {
        interval[node] = Math.min(2 * interval[node], leastInterval << doublings);
        tellsAt[node] = now + interval[node];
    }

    private int passTick() {
        int tellings = 0;
        now++;
        for (int node = 0; node < NODES; node++) {
            if (tellsAt[node] == now) {
                tell(node);
                lengthenTimer(node);
                tellings++;
            }
        }
        return tellings;
    }

    private void tell(int teller) {
        for (int hearer = 0; hearer < NODES; hearer++) {
            if (costOf[teller][hearer] > 0) {
                heardTree[hearer][teller] = treeOf[teller];
                heardVersion[hearer][teller] = versionOf[teller];
                heardRank[hearer][teller] = rankOf[teller];
                choose(hearer);
            }
        }
    }

    // ---- ways

    private void lowerWayCosts() {
        for (int node = 0; node < NODES; node++) {
            for (int other = 0; other < NODES; other++) {
                int cost = costOf[node][other];
                if (cost > 0) {
                    wayCost[node] = Math.min(wayCost[node], wayCost[other] + cost);
                }
            }
        }
    }

    private int childrenOf(int set) {
        int children = 0;
        for (int node = 0; node < NODES; node++) {
            int parent = parentOf[node];
            if (isNode(parent) && (set >> parent & 1) != 0) {
                children |= 1 << node;
            }
        }
        return children;
    }

    // ---- choosing

    private void choose(int node) {
        if (isRoot[node]) {
            return;
        }
        int best = bestCandidate(node);
        if (!isNode(best)) {
            loseParent(node);
        } else if (keepsParent(node, best)) {
            follow(node, parentOf[node]);
        } else {
            follow(node, best);
        }
    }

    private boolean keepsParent(int node, int best) {
        int parent = parentOf[node];
        if (!isNode(parent) || !isCandidate(node, parent)) {
            return false;
        }
        int gain = rankBy(node, parent) - rankBy(node, best);
        return gain < hysteresis || gain < 1;
    }

    private int bestCandidate(int node) {
        int best = NONE;
        int bestRank = NO_RANK;
        for (int other = 0; other < NODES; other++) {
            int rankByOther = rankBy(node, other);
            if (rankByOther < bestRank && isCandidate(node, other)) {
                best = other;
                bestRank = rankByOther;
            }
        }
        return best;
    }

    private boolean isCandidate(int node, int other) {
        int rank = heardRank[node][other];
        if (rank == UNHEARD || rank >= NO_RANK || rankBy(node, other) >= NO_RANK) {
            return false;
        }
        return !isOutdated(node, other) && !isTooDeep(node, other);
    }

    private int rankBy(int node, int other) {
        return heardRank[node][other] + costOf[node][other];
    }

    private boolean isOutdated(int node, int other) {
        int tree = heardTree[node][other];
        int version = heardVersion[node][other];
        if (treeOf[node] == tree && versionOf[node] > version) {
            return true;
        }
        for (int each = 0; each < NODES; each++) {
            // What is forgotten bears no tree, and a rank is never heard without a tree.
            if (heardTree[node][each] == tree && heardVersion[node][each] > version) {
                return true;
            }
        }
        return false;
    }

    private boolean isTooDeep(int node, int other) {
        if (!heardOwnVersion(node, other) || rankOf[node] == NO_RANK) {
            return false;
        }
        return heardRank[node][other] >= rankOf[node]
                || rankBy(node, other) > lowestRank[node] + increase;
    }

    private boolean heardOwnVersion(int node, int other) {
        return heardTree[node][other] == treeOf[node]
                && heardVersion[node][other] == versionOf[node];
    }

    private void follow(int node, int parent) {
        int rank = rankBy(node, parent);
        boolean sameVersion = heardOwnVersion(node, parent);
        boolean sameState = sameVersion && rank == rankOf[node] && parent == parentOf[node];
        lowestRank[node] = sameVersion ? Math.min(rank, lowestRank[node]) : rank;
        treeOf[node] = heardTree[node][parent];
        versionOf[node] = heardVersion[node][parent];
        rankOf[node] = rank;
        parentOf[node] = parent;
        if (!sameState) {
            resetTimer(node);
        }
    }

    private void loseParent(int node) {
        boolean sameState = rankOf[node] == NO_RANK && parentOf[node] == NONE;
        rankOf[node] = NO_RANK;
        parentOf[node] = NONE;
        if (!sameState) {
            resetTimer(node);
        }
    }
}
