/** Promise 9, and what is promised of candidates for the rank. */
public final class RankTest {
    public static void main(String[] args) {
        sumsTheCosts();
        takesTheLeastRank();
        hearsADeeperRankNotOfItsOwnVersion();
        risesToNoRank();
        wrongNodes();
        Checks.end();
    }

    private static void sumsTheCosts() {
        RankMesh mesh = new RankMesh();
        mesh.makeRoot(0);
        for (int node = 1; node < Meshes.NODES; node++) {
            mesh.link(node - 1, node, 100);
        }
        for (int node = 1; node < Meshes.NODES; node++) {
            Checks.due("rank before", 10000, mesh.rank(node));
            mesh.pass(1);
            Checks.due("rank", 100 * node, mesh.rank(node));
        }
        Checks.due("rank of the root", 0, mesh.rank(0));
    }

    private static void takesTheLeastRank() {
        RankMesh mesh = new RankMesh();
        mesh.makeRoot(0);
        mesh.link(0, 1, 7);
        mesh.link(0, 2, 2);
        mesh.link(1, 3, 1);
        mesh.link(2, 3, 7);
        mesh.pass(10);
        Checks.due("rank", 8, mesh.rank(3));
        mesh.link(0, 1, 9);
        mesh.pass(10);
        Checks.due("rank", 9, mesh.rank(3));
    }

    /** A rank heard must be less than the own one: 1 does not go below its child 2. */
    private static void hearsADeeperRankNotOfItsOwnVersion() {
        RankMesh mesh = Meshes.line();
        mesh.pass(6);
        mesh.link(0, 1, 0);
        Checks.due("rank of 1", 10000, mesh.rank(1));
        mesh.link(1, 9, 0);
        Checks.due("rank of 1 without a rank", 15, mesh.rank(1));
        RankMesh equal = new RankMesh();
        equal.makeRoot(0);
        equal.link(0, 1, 5);
        equal.link(0, 2, 5);
        equal.link(1, 2, 1);
        equal.pass(6);
        equal.link(0, 1, 0);
        Checks.due("rank of 1, as much heard of 2", 10000, equal.rank(1));
        RankMesh less = new RankMesh();
        less.makeRoot(0);
        less.link(0, 1, 5);
        less.link(0, 2, 4);
        less.link(1, 2, 50);
        less.pass(6);
        less.link(0, 1, 0);
        Checks.due("rank of 1, less heard of 2", 54, less.rank(1));
    }

    /** In a loop the ranks rise by 100, and the sum of 10000 is no rank any more. */
    private static void risesToNoRank() {
        RankMesh mesh = new RankMesh();
        mesh.link(0, 1, 100);
        mesh.link(1, 2, 100);
        mesh.makeRoot(0);
        mesh.pass(5);
        mesh.link(0, 1, 0);
        riseFor(mesh, 90);
        Checks.due("the rank is not at its end", 1, mesh.rank(2) < 9900 ? 1 : 0);
        int deepest = 0;
        for (int round = 0; round < 30; round++) {
            riseFor(mesh, 1);
            deepest = deepest(mesh, 1, deepest);
            deepest = deepest(mesh, 2, deepest);
        }
        Checks.due("the deepest rank", 9900, deepest);
        Checks.due("rank of 1 in the end", 10000, mesh.rank(1));
        Checks.due("rank of 2 in the end", 10000, mesh.rank(2));
    }

    private static void riseFor(RankMesh mesh, int rounds) {
        for (int round = 0; round < rounds; round++) {
            mesh.link(1, 2, 100);
            mesh.pass(1);
            mesh.link(2, 1, 100);
        }
    }

    private static int deepest(RankMesh mesh, int node, int before) {
        int rank = mesh.rank(node);
        Checks.due("no parent without a rank",
                rank == 10000 ? 1 : 0, mesh.parent(node) < 0 ? 1 : 0);
        return rank == 10000 ? before : Math.max(rank, before);
    }

    private static void wrongNodes() {
        RankMesh mesh = new RankMesh();
        for (int none : Meshes.NO_NODES) {
            Checks.outOfBounds("rank", () -> mesh.rank(none));
        }
        Checks.due("rank", 10000, mesh.rank(9));
    }
}
