/** Promise 17. */
public final class BelowTest {
    public static void main(String[] args) {
        longestWays();
        branches();
        loops();
        wrongNodes();
        Checks.end();
    }

    private static void longestWays() {
        RankMesh rising = new RankMesh();
        RankMesh falling = new RankMesh();
        rising.makeRoot(0);
        falling.makeRoot(9);
        for (int node = 1; node < Meshes.NODES; node++) {
            rising.link(node - 1, node, 1);
            falling.link(node - 1, node, 1);
        }
        rising.pass(20);
        falling.pass(20);
        for (int node = 0; node < Meshes.NODES; node++) {
            Checks.due("below, rising", 1023 >> node << node, rising.below(node));
            Checks.due("below, falling", (2 << node) - 1, falling.below(node));
        }
    }

    private static void branches() {
        RankMesh mesh = new RankMesh();
        mesh.makeRoot(4);
        mesh.link(4, 1, 2);
        mesh.link(4, 7, 2);
        mesh.link(7, 0, 2);
        mesh.link(7, 9, 2);
        mesh.link(1, 3, 2);
        mesh.pass(20);
        Checks.due("below the root", 1 << 4 | 1 << 1 | 1 << 7 | 1 | 1 << 9 | 1 << 3, mesh.below(4));
        Checks.due("below 7", 1 << 7 | 1 | 1 << 9, mesh.below(7));
        Checks.due("below 1", 1 << 1 | 1 << 3, mesh.below(1));
        Checks.due("below a leaf", 1 << 9, mesh.below(9));
        Checks.due("below a lone node", 1 << 5, mesh.below(5));
    }

    private static void loops() {
        RankMesh mesh = Meshes.loop();
        Checks.due("below 1", 1 << 1 | 1 << 2, mesh.below(1));
        Checks.due("below 2", 1 << 1 | 1 << 2, mesh.below(2));
        Checks.due("below the root outside", 1, mesh.below(0));
    }

    private static void wrongNodes() {
        RankMesh mesh = Meshes.line();
        for (int none : Meshes.NO_NODES) {
            Checks.outOfBounds("below", () -> mesh.below(none));
        }
    }
}
