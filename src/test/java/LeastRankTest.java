/** Promise 14. */
public final class LeastRankTest {
    public static void main(String[] args) {
        longestWay();
        longestWayByFallingNumbers();
        cheapestOfManyWays();
        anyRootCounts();
        isNotWhatTheNodesHave();
        wrongNodes();
        Checks.end();
    }

    private static void longestWay() {
        RankMesh mesh = new RankMesh();
        int[] order = {4, 8, 1, 9, 0, 7, 2, 6, 3, 5};
        for (int place = 1; place < order.length; place++) {
            mesh.link(order[place], order[place - 1], 100);
        }
        Checks.due("leastRank without a root", 10000, mesh.leastRank(5));
        mesh.makeRoot(order[0]);
        for (int place = 0; place < order.length; place++) {
            Checks.due("leastRank", 100 * place, mesh.leastRank(order[place]));
        }
        mesh.link(1, 9, 0);
        Checks.due("leastRank behind a cut", 10000, mesh.leastRank(9));
        mesh.makeRoot(5);
        Checks.due("leastRank by another root", 600, mesh.leastRank(9));
        mesh.endRoot(4);
        Checks.due("leastRank of one that was a root", 10000, mesh.leastRank(4));
    }

    private static void longestWayByFallingNumbers() {
        RankMesh falling = new RankMesh();
        RankMesh rising = new RankMesh();
        for (int node = 1; node < Meshes.NODES; node++) {
            falling.link(node, node - 1, 1);
            rising.link(node, node - 1, 1);
        }
        falling.makeRoot(9);
        rising.makeRoot(0);
        Checks.due("leastRank of the last one, falling", 9, falling.leastRank(0));
        Checks.due("leastRank of the last one, rising", 9, rising.leastRank(9));
    }

    private static void cheapestOfManyWays() {
        RankMesh mesh = new RankMesh();
        mesh.makeRoot(0);
        mesh.link(0, 1, 10);
        mesh.link(0, 2, 3);
        mesh.link(1, 2, 4);
        mesh.link(1, 3, 2);
        mesh.link(2, 3, 8);
        mesh.link(3, 4, 6);
        mesh.link(4, 5, 1);
        Checks.due("leastRank", 7, mesh.leastRank(1));
        Checks.due("leastRank", 9, mesh.leastRank(3));
        Checks.due("leastRank", 15, mesh.leastRank(4));
        Checks.due("leastRank by a link of the least cost", 16, mesh.leastRank(5));
        mesh.makeRoot(4);
        Checks.due("leastRank", 6, mesh.leastRank(3));
        Checks.due("leastRank", 0, mesh.leastRank(4));
    }

    /** 2 is in the tree of the root 0, and 3 a nearer root that has not told yet. */
    private static void anyRootCounts() {
        RankMesh mesh = Meshes.line();
        mesh.pass(20);
        mesh.link(2, 3, 4);
        mesh.makeRoot(3);
        Checks.due("tree of 2", 10, mesh.tree(2));
        Checks.due("rank of 2", 10, mesh.rank(2));
        Checks.due("leastRank of 2", 4, mesh.leastRank(2));
        Checks.due("leastRank of 1", 5, mesh.leastRank(1));
        mesh.endRoot(3);
        Checks.due("leastRank of 2 without it", 10, mesh.leastRank(2));
    }

    private static void isNotWhatTheNodesHave() {
        RankMesh mesh = Meshes.line();
        Checks.due("leastRank ahead of tellings", 15, mesh.leastRank(3));
        mesh.pass(20);
        String before = Meshes.state(mesh);
        mesh.leastRank(3);
        Meshes.unchanged("leastRank", mesh, before);
    }

    private static void wrongNodes() {
        RankMesh mesh = new RankMesh();
        for (int none : Meshes.NO_NODES) {
            Checks.outOfBounds("leastRank", () -> mesh.leastRank(none));
        }
    }
}
