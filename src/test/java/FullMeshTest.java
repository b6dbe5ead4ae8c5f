/** An object with all links: 45 of them, with the least cost, the greatest and others. */
public final class FullMeshTest {
    public static void main(String[] args) {
        everyNodeIsBelowTheRoot(1);
        everyNodeIsBelowTheRoot(100);
        ranksBecomeTheLeastOnes();
        everyNodeIsARoot();
        allLinksAreTakenAway();
        Checks.end();
    }

    private static void everyNodeIsBelowTheRoot(int cost) {
        for (int root = 0; root < Meshes.NODES; root++) {
            RankMesh mesh = Meshes.full(cost);
            mesh.makeRoot(root);
            // The nodes ahead of the root tell, those behind it are reset ahead of their turn.
            Checks.due("pass", root + 1, mesh.pass(1));
            Checks.due("pass, all but the root", 9, mesh.pass(1));
            Checks.due("below the root", 1023, mesh.below(root));
            for (int node = 0; node < Meshes.NODES; node++) {
                boolean isRoot = node == root;
                Checks.due("rank", isRoot ? 0 : cost, mesh.rank(node));
                Checks.due("parent", isRoot ? -1 : root, mesh.parent(node));
                Checks.due("tree", 10 + root, mesh.tree(node));
                Checks.due("leastRank", isRoot ? 0 : cost, mesh.leastRank(node));
                Checks.due("up", isRoot ? 0 : 1, mesh.up(node));
                for (int of = 0; of < Meshes.NODES; of++) {
                    int heard = of == root ? 0 : cost;
                    Checks.due("heard", of == node ? -1 : heard, mesh.heard(node, of));
                }
            }
        }
    }

    private static int cost(int one, int other) {
        int sum = 37 * (one + other) + 11 * one * other;
        return sum % 100 + 1;
    }

    /** The ways are summed here by another rule than in the class: over one more node at a time. */
    private static int[][] cheapestWays() {
        int[][] ways = new int[Meshes.NODES][Meshes.NODES];
        for (int one = 0; one < Meshes.NODES; one++) {
            for (int other = 0; other < Meshes.NODES; other++) {
                ways[one][other] = one == other ? 0 : cost(one, other);
            }
        }
        for (int over = 0; over < Meshes.NODES; over++) {
            for (int one = 0; one < Meshes.NODES; one++) {
                for (int other = 0; other < Meshes.NODES; other++) {
                    int sum = ways[one][over] + ways[over][other];
                    ways[one][other] = Math.min(ways[one][other], sum);
                }
            }
        }
        return ways;
    }

    private static void ranksBecomeTheLeastOnes() {
        int[][] ways = cheapestWays();
        for (int root = 0; root < Meshes.NODES; root++) {
            RankMesh mesh = new RankMesh();
            for (int one = 0; one < Meshes.NODES; one++) {
                for (int other = one + 1; other < Meshes.NODES; other++) {
                    mesh.link(other, one, cost(one, other));
                }
            }
            mesh.makeRoot(root);
            mesh.pass(100);
            for (int node = 0; node < Meshes.NODES; node++) {
                Checks.due("leastRank", ways[root][node], mesh.leastRank(node));
                Checks.due("rank", ways[root][node], mesh.rank(node));
                int parent = mesh.parent(node);
                Checks.due("rank by the parent", mesh.rank(node),
                        parent < 0 ? 0 : mesh.rank(parent) + cost(node, parent));
            }
            Checks.due("below the root", 1023, mesh.below(root));
        }
    }

    private static void everyNodeIsARoot() {
        RankMesh mesh = Meshes.full(3);
        for (int node = 0; node < Meshes.NODES; node++) {
            Checks.due("makeRoot", 1, mesh.makeRoot(node));
        }
        Checks.due("pass", 10, mesh.pass(1));
        for (int node = 0; node < Meshes.NODES; node++) {
            Checks.due("tree", 10 + node, mesh.tree(node));
            Checks.due("parent", -1, mesh.parent(node));
            Checks.due("below", 1 << node, mesh.below(node));
            Checks.due("heard", 0, mesh.heard(node, (node + 1) % Meshes.NODES));
        }
        for (int node = 0; node < Meshes.NODES; node++) {
            mesh.endRoot(node);
            Checks.due("rank of one that ended", 3, mesh.rank(node));
            Checks.due("parent of the lowest number", node == 0 ? 1 : 0, mesh.parent(node));
        }
        mesh.pass(1);
        Checks.badState("endRoot", () -> mesh.endRoot(9));
        Checks.due("leastRank without a root", RankMesh.NO_RANK, mesh.leastRank(9));
    }

    private static void allLinksAreTakenAway() {
        RankMesh mesh = Meshes.full(100);
        mesh.makeRoot(4);
        mesh.pass(9);
        for (int one = 0; one < Meshes.NODES; one++) {
            for (int other = one + 1; other < Meshes.NODES; other++) {
                Checks.due("link", 100, mesh.link(one, other, 0));
            }
        }
        for (int node = 0; node < Meshes.NODES; node++) {
            boolean isRoot = node == 4;
            Checks.due("rank", isRoot ? 0 : RankMesh.NO_RANK, mesh.rank(node));
            Checks.due("parent", -1, mesh.parent(node));
            Checks.due("tree stays", 14, mesh.tree(node));
            Checks.due("leastRank", isRoot ? 0 : RankMesh.NO_RANK, mesh.leastRank(node));
            for (int of = 0; of < Meshes.NODES; of++) {
                Checks.due("heard", -1, mesh.heard(node, of));
            }
        }
        Checks.due("below the root", 1 << 4, mesh.below(4));
    }
}
