/** Promise 13. */
public final class HeardTest {
    public static void main(String[] args) {
        hearsItsNeighboursAlone();
        keepsWhatItHeardLast();
        wrongNodes();
        Checks.end();
    }

    private static void hearsItsNeighboursAlone() {
        RankMesh mesh = Meshes.line();
        mesh.pass(6);
        Checks.due("heard", 0, mesh.heard(1, 0));
        Checks.due("heard by the root", 5, mesh.heard(0, 1));
        Checks.due("heard", 10, mesh.heard(1, 2));
        Checks.due("heard of no neighbour", -1, mesh.heard(0, 2));
        Checks.due("heard of itself", -1, mesh.heard(1, 1));
        Checks.due("heard of a lone node", -1, mesh.heard(1, 9));
    }

    private static void keepsWhatItHeardLast() {
        RankMesh mesh = new RankMesh();
        mesh.link(0, 1, 5);
        mesh.pass(1);
        Checks.due("heard of one without a rank", 10000, mesh.heard(0, 1));
        Checks.due("heard of one without a rank", 10000, mesh.heard(1, 0));
        mesh.makeRoot(0);
        Checks.due("heard ahead of the telling", 10000, mesh.heard(1, 0));
        mesh.pass(1);
        Checks.due("heard after the telling", 0, mesh.heard(1, 0));
        mesh.link(0, 1, 6);
        Checks.due("heard after another cost", 0, mesh.heard(1, 0));
    }

    private static void wrongNodes() {
        RankMesh mesh = new RankMesh();
        for (int none : Meshes.NO_NODES) {
            Checks.outOfBounds("heard", () -> mesh.heard(none, 0));
            Checks.outOfBounds("heard", () -> mesh.heard(0, none));
            Checks.outOfBounds("heard", () -> mesh.heard(none, none));
        }
        Checks.due("heard", -1, mesh.heard(9, 9));
    }
}
