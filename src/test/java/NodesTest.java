/** "Nodes are 0 to 9": the least and the greatest one, wherever a call takes a node. */
public final class NodesTest {
    public static void main(String[] args) {
        eachPlaceTakesBoth(0, 9);
        eachPlaceTakesBoth(9, 0);
        noPlaceTakesTheNextOnes();
        Checks.end();
    }

    private static void eachPlaceTakesBoth(int root, int leaf) {
        RankMesh mesh = new RankMesh();
        Checks.due("link", 0, mesh.link(root, leaf, 7));
        Checks.due("makeRoot", 1, mesh.makeRoot(root));
        Checks.due("renew", 2, mesh.renew(root));
        mesh.pass(3);
        Checks.due("rank of the root", 0, mesh.rank(root));
        Checks.due("rank of the leaf", 7, mesh.rank(leaf));
        Checks.due("parent of the root", -1, mesh.parent(root));
        Checks.due("parent of the leaf", root, mesh.parent(leaf));
        Checks.due("tree of the root", 20 + root, mesh.tree(root));
        Checks.due("tree of the leaf", 20 + root, mesh.tree(leaf));
        Checks.due("nextTelling of the root", 7, mesh.nextTelling(root));
        Checks.due("nextTelling of the leaf", 4, mesh.nextTelling(leaf));
        Checks.due("heard by the leaf", 0, mesh.heard(leaf, root));
        Checks.due("heard by the root", 7, mesh.heard(root, leaf));
        Checks.due("leastRank of the root", 0, mesh.leastRank(root));
        Checks.due("leastRank of the leaf", 7, mesh.leastRank(leaf));
        Checks.due("up from the root", 0, mesh.up(root));
        Checks.due("up from the leaf", 1, mesh.up(leaf));
        Checks.due("below the root", 1 | 1 << 9, mesh.below(root));
        Checks.due("below the leaf", 1 << leaf, mesh.below(leaf));
        Checks.due("down", leaf, mesh.down(root, leaf));
        mesh.endRoot(root);
        Checks.due("rank of the root of before", 14, mesh.rank(root));
        Checks.due("parent of the root of before", leaf, mesh.parent(root));
    }

    private static void noPlaceTakesTheNextOnes() {
        RankMesh mesh = Meshes.line();
        for (int none : new int[] {-1, 10}) {
            Checks.outOfBounds("link", () -> mesh.link(none, 1, 7));
            Checks.outOfBounds("link", () -> mesh.link(1, none, 7));
            Checks.outOfBounds("makeRoot", () -> mesh.makeRoot(none));
            Checks.outOfBounds("endRoot", () -> mesh.endRoot(none));
            Checks.outOfBounds("renew", () -> mesh.renew(none));
            Checks.outOfBounds("rank", () -> mesh.rank(none));
            Checks.outOfBounds("parent", () -> mesh.parent(none));
            Checks.outOfBounds("tree", () -> mesh.tree(none));
            Checks.outOfBounds("nextTelling", () -> mesh.nextTelling(none));
            Checks.outOfBounds("heard", () -> mesh.heard(none, 1));
            Checks.outOfBounds("heard", () -> mesh.heard(1, none));
            Checks.outOfBounds("leastRank", () -> mesh.leastRank(none));
            Checks.outOfBounds("up", () -> mesh.up(none));
            Checks.outOfBounds("below", () -> mesh.below(none));
            Checks.outOfBounds("down", () -> mesh.down(none, 1));
            Checks.outOfBounds("down", () -> mesh.down(1, none));
        }
    }
}
