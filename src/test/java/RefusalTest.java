import java.util.function.Consumer;
import java.util.function.Function;
import java.util.function.Supplier;

/**
 * "If several apply, IndexOutOfBoundsException goes first, then IllegalArgumentException. A call
 * that throws an exception changes nothing": neither what can be seen at once nor what follows.
 */
public final class RefusalTest {
    private static final int[] WRONG_NODES = {-1, 10, Integer.MIN_VALUE, Integer.MAX_VALUE};
    private static final int[] RIGHT_RULES = {4, 9, 2, 3};
    private static final int[][] WRONG_RULES = {
        {-1, 101, Integer.MIN_VALUE, Integer.MAX_VALUE},
        {-1, 10001, Integer.MIN_VALUE, Integer.MAX_VALUE},
        {0, 9, -1, Integer.MIN_VALUE, Integer.MAX_VALUE},
        {-1, 7, Integer.MIN_VALUE, Integer.MAX_VALUE},
    };

    private static Supplier<RankMesh> start;

    public static void main(String[] args) {
        refuseFrom(RankMesh::new);
        refuseFrom(RefusalTest::grownLine);
        refuseFrom(RefusalTest::betweenRoots);
        refuseFrom(Meshes::loop);
        refuseFrom(RefusalTest::fullWithRoots);
        Checks.end();
    }

    private static RankMesh grownLine() {
        RankMesh mesh = Meshes.line();
        mesh.pass(17);
        mesh.link(0, 1, 9);
        return mesh;
    }

    /** Rules that differ in each place from the first ones and from those that are refused. */
    private static RankMesh betweenRoots() {
        RankMesh mesh = new RankMesh();
        mesh.setRules(3, 7, 2, 1);
        mesh.link(0, 1, 10);
        mesh.link(1, 2, 11);
        mesh.link(1, 3, 12);
        mesh.makeRoot(0);
        mesh.makeRoot(2);
        mesh.renew(2);
        mesh.pass(9);
        return mesh;
    }

    private static RankMesh fullWithRoots() {
        RankMesh mesh = Meshes.full(6);
        mesh.makeRoot(0);
        mesh.pass(3);
        mesh.makeRoot(1);
        mesh.endRoot(0);
        mesh.pass(4);
        return mesh;
    }

    private static void refuseFrom(Supplier<RankMesh> from) {
        start = from;
        for (int none : WRONG_NODES) {
            refuseNode(none);
        }
        refuseLinks();
        refuseRules();
        for (int ticks : new int[] {0, 101, -1, Integer.MIN_VALUE, Integer.MAX_VALUE}) {
            badArgument("pass " + ticks, mesh -> mesh.pass(ticks));
        }
        refuseByRoots();
        refuseByWays();
    }

    private static void refuseNode(int none) {
        outOfBounds("makeRoot", mesh -> mesh.makeRoot(none));
        outOfBounds("endRoot", mesh -> mesh.endRoot(none));
        outOfBounds("renew", mesh -> mesh.renew(none));
        outOfBounds("rank", mesh -> mesh.rank(none));
        outOfBounds("parent", mesh -> mesh.parent(none));
        outOfBounds("tree", mesh -> mesh.tree(none));
        outOfBounds("nextTelling", mesh -> mesh.nextTelling(none));
        outOfBounds("heard by none", mesh -> mesh.heard(none, 1));
        outOfBounds("heard of none", mesh -> mesh.heard(1, none));
        outOfBounds("heard by none of none", mesh -> mesh.heard(none, none));
        outOfBounds("leastRank", mesh -> mesh.leastRank(none));
        outOfBounds("up", mesh -> mesh.up(none));
        outOfBounds("below", mesh -> mesh.below(none));
        outOfBounds("down from none", mesh -> mesh.down(none, 1));
        outOfBounds("down to none", mesh -> mesh.down(1, none));
        outOfBounds("down from none to itself", mesh -> mesh.down(none, none));
        for (int cost : new int[] {0, 5, -1, 101, Integer.MAX_VALUE}) {
            outOfBounds("link none, " + cost, mesh -> mesh.link(none, 1, cost));
            outOfBounds("link to none, " + cost, mesh -> mesh.link(1, none, cost));
            outOfBounds("link none to itself, " + cost, mesh -> mesh.link(none, none, cost));
        }
    }

    private static void refuseLinks() {
        for (int cost : new int[] {-1, 101, Integer.MIN_VALUE, Integer.MAX_VALUE}) {
            badArgument("link, " + cost, mesh -> mesh.link(0, 1, cost));
            badArgument("link, " + cost, mesh -> mesh.link(9, 2, cost));
            badArgument("link to itself, " + cost, mesh -> mesh.link(1, 1, cost));
        }
        for (int cost : new int[] {0, 1, 100}) {
            badArgument("link to itself, " + cost, mesh -> mesh.link(0, 0, cost));
            badArgument("link to itself, " + cost, mesh -> mesh.link(1, 1, cost));
            badArgument("link to itself, " + cost, mesh -> mesh.link(9, 9, cost));
        }
    }

    /** Each wrong value alone, and any two of the four arguments wrong at once. */
    private static void refuseRules() {
        for (int place = 0; place < RIGHT_RULES.length; place++) {
            for (int wrong : WRONG_RULES[place]) {
                int[] rules = RIGHT_RULES.clone();
                rules[place] = wrong;
                refuseRules(rules);
            }
            for (int next = place + 1; next < RIGHT_RULES.length; next++) {
                int[] rules = RIGHT_RULES.clone();
                rules[place] = WRONG_RULES[place][0];
                rules[next] = WRONG_RULES[next][1];
                refuseRules(rules);
            }
        }
    }

    private static void refuseRules(int[] rules) {
        badArgument("setRules " + rules[0] + " " + rules[1] + " " + rules[2] + " " + rules[3],
                mesh -> mesh.setRules(rules[0], rules[1], rules[2], rules[3]));
    }

    private static void refuseByRoots() {
        RankMesh first = start.get();
        for (int each = 0; each < Meshes.NODES; each++) {
            int node = each;
            if (first.rank(node) == 0) {
                badState("makeRoot of the root " + node, mesh -> mesh.makeRoot(node));
            } else {
                badState("endRoot of " + node, mesh -> mesh.endRoot(node));
                badState("renew of " + node, mesh -> mesh.renew(node));
            }
        }
    }

    private static void refuseByWays() {
        RankMesh first = start.get();
        for (int from = 0; from < Meshes.NODES; from++) {
            int below = first.below(from);
            for (int to = 0; to < Meshes.NODES; to++) {
                if (from == to || (below >> to & 1) == 0) {
                    int top = from;
                    int bottom = to;
                    badState("down " + from + " " + to, mesh -> mesh.down(top, bottom));
                }
            }
        }
    }

    private static void outOfBounds(String call, Consumer<RankMesh> refused) {
        refused(call, IndexOutOfBoundsException.class, refused);
    }

    private static void badArgument(String call, Consumer<RankMesh> refused) {
        refused(call, IllegalArgumentException.class, refused);
    }

    private static void badState(String call, Consumer<RankMesh> refused) {
        refused(call, IllegalStateException.class, refused);
    }

    private static void refused(String call, Class<?> want, Consumer<RankMesh> refused) {
        compare(call, want, refused, Meshes::state);
        compare(call, want, refused, RefusalTest::afterTicks);
        compare(call, want, refused, RefusalTest::afterLinks);
        compare(call, want, refused, RefusalTest::afterRoots);
    }

    /** Twins, of which one refuses a call, answer alike from there on. */
    private static void compare(String call, Class<?> want, Consumer<RankMesh> refused,
            Function<RankMesh, String> sequel) {
        RankMesh mesh = start.get();
        Checks.throwing(call, want, () -> refused.accept(mesh));
        Checks.due("what follows " + call, sequel.apply(start.get()), sequel.apply(mesh));
    }

    private static String afterTicks(RankMesh mesh) {
        StringBuilder text = new StringBuilder();
        for (int tick = 0; tick < 40; tick++) {
            text.append(mesh.pass(1)).append(' ');
        }
        return text.append(Meshes.state(mesh)).toString();
    }

    /** The costs of before are answered, and the rules have work to do. */
    private static String afterLinks(RankMesh mesh) {
        StringBuilder text = new StringBuilder();
        for (int one = 0; one < Meshes.NODES; one++) {
            for (int other = one + 1; other < Meshes.NODES; other++) {
                text.append(mesh.link(one, other, (7 * one + 3 * other) % 20 + 1)).append(' ');
                text.append(mesh.pass(1)).append(' ');
                text.append(mesh.rank(other)).append(' ');
            }
        }
        return text.append(Meshes.state(mesh)).toString();
    }

    private static String afterRoots(RankMesh mesh) {
        StringBuilder text = new StringBuilder();
        for (int each = 0; each < Meshes.NODES; each++) {
            int node = each;
            text.append(Checks.answer(() -> mesh.renew(node))).append(' ');
            text.append(Checks.answer(() -> mesh.makeRoot(node))).append(' ');
            text.append(mesh.pass(1)).append(' ');
            text.append(mesh.nextTelling(node)).append(' ');
            text.append(Checks.answer(() -> Checks.none(() -> mesh.endRoot(node)))).append(' ');
        }
        return text.append(Meshes.state(mesh)).toString();
    }
}
