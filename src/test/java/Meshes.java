/** Meshes to start from, and all that can be seen of one. */
final class Meshes {
    static final int NODES = 10;
    static final int[] NO_NODES = {-1, 10, 11, Integer.MIN_VALUE, Integer.MAX_VALUE};

    private Meshes() {
    }

    /** 0 - 1 - 2 - 3 with costs of 5, 0 a root. */
    static RankMesh line() {
        RankMesh mesh = new RankMesh();
        mesh.link(0, 1, 5);
        mesh.link(1, 2, 5);
        mesh.link(2, 3, 5);
        mesh.makeRoot(0);
        return mesh;
    }

    /** 1 and 2 have each other as parent: 2 has the rank 10, and 1 the rank 15 by it. */
    static RankMesh loop() {
        RankMesh mesh = new RankMesh();
        mesh.link(0, 1, 5);
        mesh.link(1, 2, 5);
        mesh.makeRoot(0);
        mesh.pass(5);
        mesh.link(0, 1, 0);
        mesh.link(1, 9, 0);
        return mesh;
    }

    /** All that the calls that change nothing answer. */
    static String state(RankMesh mesh) {
        StringBuilder text = new StringBuilder();
        text.append("time ").append(mesh.time()).append(" loops ").append(mesh.loops());
        for (int node = 0; node < NODES; node++) {
            text.append("\nnode ").append(node).append(": rank ").append(mesh.rank(node));
            text.append(" parent ").append(mesh.parent(node));
            text.append(" tree ").append(mesh.tree(node));
            text.append(" tells at ").append(mesh.nextTelling(node));
            text.append(" least ").append(mesh.leastRank(node));
            text.append(" below ").append(mesh.below(node)).append(" heard");
            for (int of = 0; of < NODES; of++) {
                text.append(' ').append(mesh.heard(node, of));
            }
        }
        return text.toString();
    }

    static void unchanged(String call, RankMesh mesh, String before) {
        Checks.due("the state after " + call, before, state(mesh));
    }
}
