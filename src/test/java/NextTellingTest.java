/** Promise 12. */
public final class NextTellingTest {
    public static void main(String[] args) {
        isLaterThanNow();
        isResetByNewsAlone();
        isResetByTheParentAlone();
        wrongNodes();
        Checks.end();
    }

    private static void isLaterThanNow() {
        RankMesh mesh = Meshes.line();
        for (int tick = 0; tick < 22; tick++) {
            mesh.pass(1);
            for (int node = 0; node < Meshes.NODES; node++) {
                Checks.due("nextTelling is later", 1, mesh.nextTelling(node) > mesh.time() ? 1 : 0);
            }
        }
    }

    private static void isResetByNewsAlone() {
        RankMesh mesh = new RankMesh();
        mesh.makeRoot(0);
        mesh.link(0, 1, 5);
        mesh.pass(60);
        int before = mesh.nextTelling(1);
        mesh.link(1, 5, 9);
        mesh.link(1, 5, 0);
        mesh.link(0, 1, 5);
        Checks.due("nextTelling without news", before, mesh.nextTelling(1));
        mesh.link(0, 1, 6);
        Checks.due("nextTelling with another rank", 61, mesh.nextTelling(1));
        mesh.pass(20);
        mesh.link(0, 1, 0);
        Checks.due("nextTelling without a rank", 81, mesh.nextTelling(1));
        mesh.pass(1);
        mesh.link(1, 6, 0);
        Checks.due("nextTelling, still without a rank", 83, mesh.nextTelling(1));
    }

    /** Another parent at the same rank, tree and version is news too. */
    private static void isResetByTheParentAlone() {
        RankMesh mesh = new RankMesh();
        mesh.makeRoot(0);
        mesh.link(0, 1, 5);
        mesh.link(0, 2, 5);
        mesh.link(1, 3, 5);
        mesh.link(2, 3, 5);
        mesh.pass(60);
        Checks.due("parent", 1, mesh.parent(3));
        mesh.link(1, 3, 0);
        Checks.due("parent", 2, mesh.parent(3));
        Checks.due("rank", 10, mesh.rank(3));
        Checks.due("nextTelling", 61, mesh.nextTelling(3));
    }

    private static void wrongNodes() {
        RankMesh mesh = new RankMesh();
        for (int none : Meshes.NO_NODES) {
            Checks.outOfBounds("nextTelling", () -> mesh.nextTelling(none));
        }
    }
}
