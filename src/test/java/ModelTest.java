import java.util.function.ToIntFunction;

/** Runs of calls, by a counter's numbers, answered by the class and by the model. */
public final class ModelTest {
    private static final int RUNS = 3000;
    private static final int DEEP_RUNS = 600;
    /* An object is used for 512 calls, of which the look at the whole state takes 153. */
    private static final int CALLS = 358;
    private static final int[] ODD_NUMBERS = {
        -1, 10, 101, 10001, -10000, Integer.MIN_VALUE, Integer.MAX_VALUE, 1 << 30, 7, 9,
    };

    private static int looped = 0;
    private static int lost = 0;
    private static int deepest = 0;
    private static int refused = 0;

    private final StringBuilder text = new StringBuilder();
    private final RankMesh mesh = new RankMesh();
    private final ModelMesh model = new ModelMesh();
    private final int nodes;
    private long seed;
    private int calls = 0;
    private boolean differs = false;

    private ModelTest(int number, int leastNodes, int mostNodes) {
        seed = number;
        nodes = leastNodes + next(mostNodes - leastNodes + 1);
    }

    public static void main(String[] args) {
        for (int run = 0; run < RUNS; run++) {
            new ModelTest(run, 3, 10).run();
        }
        for (int run = 0; run < DEEP_RUNS; run++) {
            new ModelTest(run, 3, 6).runDeep();
        }
        // Runs that never come to these would leave the words on them untested.
        Checks.due("loops were found", 1, looped > 500 ? 1 : 0);
        Checks.due("ranks were lost", 1, lost > 500 ? 1 : 0);
        Checks.due("the deepest rank is at the edge", 9999, deepest);
        Checks.due("calls were refused", 1, refused > 500 ? 1 : 0);
        Checks.end();
    }

    private int next(int below) {
        seed = seed * 6364136223846793005L + 1442695040888963407L;
        return (int) ((seed >>> 33) % below);
    }

    private int node() {
        return next(40) == 0 ? ODD_NUMBERS[next(ODD_NUMBERS.length)] : next(nodes);
    }

    private int number(int least, int most) {
        return next(60) == 0 ? ODD_NUMBERS[next(ODD_NUMBERS.length)]
                : least + next(most - least + 1);
    }

    private void run() {
        while (calls < CALLS && !differs) {
            change();
            look();
        }
        lookAtAll();
    }

    /** Cut off from the root, 1 and 2 rise in a loop near to no rank; then others come to it. */
    private void runDeep() {
        int cost = 90 + next(11);
        link(0, 1, cost);
        link(1, 2, cost);
        makeRoot(0);
        pass(5);
        link(0, 1, 0);
        setRules(next(101), 10000, 1);
        while (calls < 240 && !differs
                && Math.max(model.rank(1) % 10000, model.rank(2) % 10000) < 9600) {
            link(model.rank(1) == 10000 ? 1 : 2, 9, 0);
            pass(1);
        }
        for (int one = 1; one < nodes; one++) {
            link(one, 1 + next(nodes - 1), 1 + next(100));
        }
        while (calls < CALLS && !differs) {
            changeDeep();
            look();
        }
        lookAtAll();
    }

    private void change() {
        switch (next(14)) {
            case 0, 1, 2, 3:
                link(node(), node(), next(3) == 0 ? 0 : number(1, next(2) == 0 ? 6 : 100));
                break;
            case 4, 5, 6, 7, 8:
                pass(number(1, next(4) == 0 ? 100 : 3));
                break;
            case 9:
                if (next(2) == 0) {
                    makeRoot(node());
                }
                break;
            case 10:
                endRoot(node());
                break;
            case 11:
                int root = node();
                compare("renew " + root, it -> it.renew(root), it -> it.renew(root));
                break;
            case 12:
                if (next(3) == 0) {
                    setRules(number(0, next(2) == 0 ? 8 : 100),
                            number(0, next(2) == 0 ? 30 : 10000),
                            number(1, next(2) == 0 ? 2 : 8));
                }
                break;
            default:
                int from = node();
                compare("up " + from, it -> it.up(from), it -> it.up(from));
                break;
        }
    }

    private void changeDeep() {
        switch (next(14)) {
            case 0, 1, 2:
                link(next(nodes), next(nodes), 1 + next(100));
                break;
            case 3:
                setRules(next(101), 10000, 1);
                break;
            case 4, 5, 6, 7, 8, 9:
                pass(1);
                break;
            default:
                link(next(nodes), 9, 0);
                break;
        }
    }

    private void link(int one, int other, int cost) {
        compare("link " + one + " " + other + " " + cost,
                it -> it.link(one, other, cost), it -> it.link(one, other, cost));
    }

    private void pass(int ticks) {
        compare("pass " + ticks, it -> it.pass(ticks), it -> it.pass(ticks));
    }

    private void makeRoot(int node) {
        compare("makeRoot " + node, it -> it.makeRoot(node), it -> it.makeRoot(node));
    }

    private void endRoot(int node) {
        compare("endRoot " + node,
                it -> Checks.none(() -> it.endRoot(node)),
                it -> Checks.none(() -> it.endRoot(node)));
    }

    private void setRules(int hysteresis, int increase, int least) {
        int doublings = number(0, 6);
        compare("setRules " + hysteresis + " " + increase + " " + least + " " + doublings,
                it -> Checks.none(() -> it.setRules(hysteresis, increase, least, doublings)),
                it -> Checks.none(() -> it.setRules(hysteresis, increase, least, doublings)));
    }

    private void look() {
        int a = node();
        int b = node();
        switch (next(9)) {
            case 0, 1:
                compare("rank " + a, it -> it.rank(a), it -> it.rank(a));
                break;
            case 2:
                compare("parent " + a, it -> it.parent(a), it -> it.parent(a));
                break;
            case 3:
                compare("tree " + a, it -> it.tree(a), it -> it.tree(a));
                break;
            case 4:
                compare("nextTelling " + a, it -> it.nextTelling(a), it -> it.nextTelling(a));
                break;
            case 5:
                compare("heard " + a + " " + b, it -> it.heard(a, b), it -> it.heard(a, b));
                break;
            case 6:
                compare("below " + a, it -> it.below(a), it -> it.below(a));
                break;
            case 7:
                compare("down " + a + " " + b, it -> it.down(a, b), it -> it.down(a, b));
                break;
            default:
                compare("loops", RankMesh::loops, ModelMesh::loops);
                break;
        }
    }

    private void lookAtAll() {
        compare("time", RankMesh::time, ModelMesh::time);
        compare("loops", RankMesh::loops, ModelMesh::loops);
        int any = next(Meshes.NODES);
        compare("leastRank " + any, it -> it.leastRank(any), it -> it.leastRank(any));
        for (int each = 0; each < Meshes.NODES; each++) {
            int node = each;
            compare("rank " + node, it -> it.rank(node), it -> it.rank(node));
            compare("parent " + node, it -> it.parent(node), it -> it.parent(node));
            compare("tree " + node, it -> it.tree(node), it -> it.tree(node));
            compare("nextTelling " + node, it -> it.nextTelling(node), it -> it.nextTelling(node));
            compare("below " + node, it -> it.below(node), it -> it.below(node));
            for (int next = 0; next < Meshes.NODES; next++) {
                int of = next;
                compare("heard " + node + " " + of, it -> it.heard(node, of),
                        it -> it.heard(node, of));
            }
        }
    }

    /** After the first difference a run says no more. */
    private void compare(String call, ToIntFunction<RankMesh> got, ToIntFunction<ModelMesh> want) {
        if (differs) {
            return;
        }
        calls++;
        text.append("\n ").append(call);
        String answer = Checks.answer(() -> got.applyAsInt(mesh));
        String due = Checks.answer(() -> want.applyAsInt(model));
        if (!answer.equals(due)) {
            differs = true;
            Checks.report("run:" + text + ": " + answer + " answered, due is " + due);
        }
        count(call, due);
    }

    private void count(String call, String due) {
        refused += due.startsWith("throws") ? 1 : 0;
        looped += due.equals("-2") ? 1 : 0;
        if (call.startsWith("rank") && !due.startsWith("throws")) {
            int rank = Integer.parseInt(due);
            int node = Integer.parseInt(call.substring(5));
            lost += rank == RankMesh.NO_RANK && model.tree(node) >= 0 ? 1 : 0;
            deepest = Math.max(deepest, rank % RankMesh.NO_RANK);
        }
    }
}
