/** Promise 11. */
public final class TreeTest {
    public static void main(String[] args) {
        tellsRootAndVersion();
        staysWithoutARank();
        wrongNodes();
        Checks.end();
    }

    private static void tellsRootAndVersion() {
        RankMesh mesh = new RankMesh();
        mesh.link(9, 4, 1);
        Checks.due("tree", -1, mesh.tree(9));
        mesh.makeRoot(9);
        mesh.pass(2);
        Checks.due("tree", 19, mesh.tree(4));
        for (int version = 2; version <= 12; version++) {
            mesh.renew(9);
        }
        Checks.due("tree of the root", 129, mesh.tree(9));
        Checks.due("tree of one that has not heard", 19, mesh.tree(4));
        mesh.pass(1);
        Checks.due("tree of one that has heard", 129, mesh.tree(4));
        Checks.due("tree of a lone node", -1, mesh.tree(0));
    }

    private static void staysWithoutARank() {
        RankMesh mesh = Meshes.line();
        mesh.pass(20);
        mesh.link(0, 1, 0);
        mesh.pass(20);
        for (int node = 1; node <= 3; node++) {
            Checks.due("rank", 10000, mesh.rank(node));
            Checks.due("tree", 10, mesh.tree(node));
        }
    }

    private static void wrongNodes() {
        RankMesh mesh = new RankMesh();
        for (int none : Meshes.NO_NODES) {
            Checks.outOfBounds("tree", () -> mesh.tree(none));
        }
    }
}
