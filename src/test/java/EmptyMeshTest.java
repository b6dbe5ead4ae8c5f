/** An object with no links and no roots, and one that lacks only the one or the other. */
public final class EmptyMeshTest {
    public static void main(String[] args) {
        nothingComesOfTicks();
        nothingIsPossibleOfRoots();
        rootsWithoutLinks();
        linksWithoutRoots();
        Checks.end();
    }

    private static void nothingComesOfTicks() {
        RankMesh mesh = new RankMesh();
        Checks.due("pass, at 1, 3, 7, 15, 31, 47, 63, 79, 95", 90, mesh.pass(100));
        Checks.due("time", 100, mesh.time());
        for (int node = 0; node < Meshes.NODES; node++) {
            nodeHasNothing(mesh, node);
            Checks.due("nextTelling", 111, mesh.nextTelling(node));
            Checks.due("leastRank", RankMesh.NO_RANK, mesh.leastRank(node));
            for (int of = 0; of < Meshes.NODES; of++) {
                Checks.due("heard", -1, mesh.heard(node, of));
            }
        }
        Checks.due("loops", 0, mesh.loops());
    }

    private static void nodeHasNothing(RankMesh mesh, int node) {
        Checks.due("rank", RankMesh.NO_RANK, mesh.rank(node));
        Checks.due("parent", -1, mesh.parent(node));
        Checks.due("tree", -1, mesh.tree(node));
        Checks.due("up", -1, mesh.up(node));
        Checks.due("below", 1 << node, mesh.below(node));
    }

    private static void nothingIsPossibleOfRoots() {
        RankMesh mesh = new RankMesh();
        for (int node = 0; node < Meshes.NODES; node++) {
            int from = node;
            Checks.badState("endRoot", () -> mesh.endRoot(from));
            Checks.badState("renew", () -> mesh.renew(from));
            for (int other = 0; other < Meshes.NODES; other++) {
                int to = other;
                Checks.badState("down", () -> mesh.down(from, to));
            }
        }
    }

    private static void rootsWithoutLinks() {
        RankMesh mesh = new RankMesh();
        for (int node = 0; node < Meshes.NODES; node++) {
            Checks.due("makeRoot", 1, mesh.makeRoot(node));
        }
        Checks.due("pass", 10, mesh.pass(1));
        for (int node = 0; node < Meshes.NODES; node++) {
            Checks.due("rank", 0, mesh.rank(node));
            Checks.due("parent", -1, mesh.parent(node));
            Checks.due("tree", 10 + node, mesh.tree(node));
            Checks.due("leastRank", 0, mesh.leastRank(node));
            Checks.due("up", 0, mesh.up(node));
            Checks.due("below", 1 << node, mesh.below(node));
            Checks.due("heard", -1, mesh.heard(node, (node + 1) % Meshes.NODES));
        }
    }

    private static void linksWithoutRoots() {
        RankMesh mesh = Meshes.full(1);
        Checks.due("pass", 90, mesh.pass(100));
        for (int node = 0; node < Meshes.NODES; node++) {
            nodeHasNothing(mesh, node);
            Checks.due("nextTelling", 111, mesh.nextTelling(node));
            Checks.due("leastRank", RankMesh.NO_RANK, mesh.leastRank(node));
            for (int of = 0; of < Meshes.NODES; of++) {
                Checks.due("heard", of == node ? -1 : RankMesh.NO_RANK, mesh.heard(node, of));
            }
        }
    }
}
