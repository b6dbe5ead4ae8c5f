/** Promise 6. */
public final class RenewTest {
    public static void main(String[] args) {
        beginsANewVersion();
        newVersionGoesThroughTheMesh();
        oldVersionIsNoCandidate();
        wrongCalls();
        Checks.end();
    }

    private static void beginsANewVersion() {
        RankMesh mesh = new RankMesh();
        mesh.makeRoot(5);
        mesh.pass(30);
        Checks.due("renew", 2, mesh.renew(5));
        Checks.due("tree", 25, mesh.tree(5));
        Checks.due("rank", 0, mesh.rank(5));
        Checks.due("nextTelling", 31, mesh.nextTelling(5));
        Checks.due("renew again", 3, mesh.renew(5));
        Checks.due("tree", 35, mesh.tree(5));
    }

    private static void newVersionGoesThroughTheMesh() {
        RankMesh mesh = Meshes.line();
        mesh.pass(30);
        mesh.renew(0);
        int before = mesh.nextTelling(2);
        mesh.pass(1);
        Checks.due("tree of the next one", 20, mesh.tree(1));
        Checks.due("nextTelling of the next one", 31 + 1, mesh.nextTelling(1));
        Checks.due("tree of the one behind it", 10, mesh.tree(2));
        Checks.due("nextTelling of the one behind it", before, mesh.nextTelling(2));
        mesh.pass(2);
        Checks.due("tree of the last one", 20, mesh.tree(3));
        Checks.due("rank of the last one", 15, mesh.rank(3));
    }

    /** 3 hears a new version of 1; then 2, by which it had a lower rank, is outdated. */
    private static void oldVersionIsNoCandidate() {
        RankMesh mesh = new RankMesh();
        mesh.makeRoot(0);
        mesh.link(0, 1, 50);
        mesh.link(0, 2, 10);
        mesh.link(1, 3, 50);
        mesh.link(2, 3, 10);
        mesh.pass(20);
        Checks.due("parent", 2, mesh.parent(3));
        mesh.link(0, 2, 0);
        mesh.link(2, 9, 0);
        Checks.due("2 is below 3 now", 3, mesh.parent(2));
        mesh.renew(0);
        mesh.pass(2);
        Checks.due("tree of 1", 20, mesh.tree(1));
        Checks.due("tree of 3", 20, mesh.tree(3));
        Checks.due("parent of 3", 1, mesh.parent(3));
        Checks.due("rank of 3", 100, mesh.rank(3));
        mesh.pass(1);
        Checks.due("parent of 2", 3, mesh.parent(2));
        Checks.due("rank of 2", 110, mesh.rank(2));
    }

    private static void wrongCalls() {
        RankMesh mesh = Meshes.line();
        mesh.pass(6);
        String before = Meshes.state(mesh);
        for (int none : Meshes.NO_NODES) {
            Checks.outOfBounds("renew", () -> mesh.renew(none));
        }
        Checks.badState("renew of no root", () -> mesh.renew(1));
        Meshes.unchanged("wrong calls", mesh, before);
        mesh.endRoot(0);
        Checks.badState("renew of one that was a root", () -> mesh.renew(0));
        Checks.due("makeRoot", 2, mesh.makeRoot(0));
    }
}
