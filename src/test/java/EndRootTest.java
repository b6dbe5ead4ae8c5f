/** Promise 5. */
public final class EndRootTest {
    public static void main(String[] args) {
        leavesNothing();
        choosesWhatItHeard();
        goesIntoItsOwnOldTree();
        startsWithANewLowestRank();
        wrongCalls();
        Checks.end();
    }

    private static void leavesNothing() {
        RankMesh mesh = new RankMesh();
        mesh.makeRoot(6);
        mesh.pass(20);
        mesh.endRoot(6);
        Checks.due("tree", -1, mesh.tree(6));
        Checks.due("rank", 10000, mesh.rank(6));
        Checks.due("parent", -1, mesh.parent(6));
        Checks.due("nextTelling", 21, mesh.nextTelling(6));
        Checks.due("up", -1, mesh.up(6));
        Checks.due("leastRank", 10000, mesh.leastRank(6));
    }

    private static void choosesWhatItHeard() {
        RankMesh mesh = new RankMesh();
        mesh.link(0, 1, 4);
        mesh.makeRoot(0);
        mesh.makeRoot(1);
        mesh.pass(6);
        mesh.endRoot(1);
        Checks.due("tree", 10, mesh.tree(1));
        Checks.due("rank", 4, mesh.rank(1));
        Checks.due("parent", 0, mesh.parent(1));
        Checks.due("nextTelling", 7, mesh.nextTelling(1));
    }

    private static void goesIntoItsOwnOldTree() {
        RankMesh mesh = Meshes.line();
        mesh.pass(6);
        mesh.endRoot(0);
        Checks.due("tree", 10, mesh.tree(0));
        Checks.due("rank", 10, mesh.rank(0));
        Checks.due("parent", 1, mesh.parent(0));
        Checks.due("up", -2, mesh.up(0));
    }

    private static void startsWithANewLowestRank() {
        RankMesh mesh = new RankMesh();
        mesh.link(0, 1, 4);
        mesh.makeRoot(1);
        mesh.pass(3);
        Checks.due("rank", 4, mesh.rank(0));
        mesh.link(0, 1, 9);
        mesh.makeRoot(0);
        mesh.endRoot(0);
        Checks.due("rank in the tree of before", 9, mesh.rank(0));
        mesh.setRules(0, 3, 1, 4);
        mesh.link(0, 1, 12);
        Checks.due("rank 3 above the lowest since", 12, mesh.rank(0));
        mesh.link(0, 1, 13);
        Checks.due("rank 4 above the lowest since", 10000, mesh.rank(0));
    }

    private static void wrongCalls() {
        RankMesh mesh = Meshes.line();
        mesh.pass(6);
        String before = Meshes.state(mesh);
        for (int none : Meshes.NO_NODES) {
            Checks.outOfBounds("endRoot", () -> mesh.endRoot(none));
        }
        Checks.badState("endRoot of no root", () -> mesh.endRoot(1));
        Checks.badState("endRoot of a lone node", () -> mesh.endRoot(9));
        Meshes.unchanged("wrong calls", mesh, before);
        mesh.endRoot(0);
        Checks.badState("endRoot again", () -> mesh.endRoot(0));
    }
}
