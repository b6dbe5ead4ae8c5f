/** Meshes to start from, and all that can be seen of one. */
final class Meshes {
    static final int NODES = 10;
    static final int[] NO_NODES = {-1, 10, 11, Integer.MIN_VALUE, Integer.MAX_VALUE};
    /* A class that never comes to what a test waits for fails it, and does not stop it. */
    private static final int MOST_ROUNDS = 100;

    private Meshes() {
    }

    /** 0 - 1 - 2 - 3 with costs of 5, 0 a root. */
    static RankMesh line() {
        RankMesh mesh = new RankMesh();
        mesh.link(0, 1, 5);
        mesh.link(1, 2, 5);
        mesh.link(2, 3, 5);
        mesh.makeRoot(0);
        return mesh;
    }

    /** 1 and 2 have each other as parent: 2 has the rank 10, and 1 the rank 15 by it. */
    static RankMesh loop() {
        RankMesh mesh = new RankMesh();
        mesh.link(0, 1, 5);
        mesh.link(1, 2, 5);
        mesh.makeRoot(0);
        mesh.pass(5);
        mesh.link(0, 1, 0);
        mesh.link(1, 9, 0);
        return mesh;
    }

    /** Every two nodes linked at the same cost, without a root. */
    static RankMesh full(int cost) {
        RankMesh mesh = new RankMesh();
        for (int one = 0; one < NODES; one++) {
            for (int other = one + 1; other < NODES; other++) {
                mesh.link(one, other, cost);
            }
        }
        return mesh;
    }

    /** 1 has this rank, 9900 to 9999, and tells it in the next tick; 1 and 2 are in a loop. */
    static RankMesh deep(int rank) {
        RankMesh mesh = new RankMesh();
        mesh.link(0, 1, 98);
        mesh.link(1, 2, 99);
        mesh.makeRoot(0);
        mesh.pass(5);
        mesh.link(0, 1, 0);
        mesh.link(1, 2, 99);
        for (int round = 0; round < MOST_ROUNDS && mesh.rank(1) < 9800; round++) {
            riseBy(mesh, 2, 1, 99);
            riseBy(mesh, 1, 2, 99);
        }
        riseBy(mesh, 2, 1, 99);
        riseBy(mesh, 1, 2, rank - mesh.rank(2));
        return mesh;
    }

    /** The node loses its rank as the other one tells; then it goes below the other one anew. */
    private static void riseBy(RankMesh mesh, int node, int other, int cost) {
        mesh.pass(1);
        mesh.link(node, other, cost);
    }

    /** Lets time pass in few calls, as an object has 512 of them. */
    static int passTo(RankMesh mesh, int tick) {
        int tellings = 0;
        for (int round = 0; round < MOST_ROUNDS && mesh.time() < tick; round++) {
            tellings += mesh.pass(Math.min(100, tick - mesh.time()));
        }
        return tellings;
    }

    /** All that the calls that change nothing answer, in 162 calls. */
    static String state(RankMesh mesh) {
        StringBuilder text = new StringBuilder();
        text.append("time ").append(mesh.time()).append(" loops ").append(mesh.loops());
        for (int node = 0; node < NODES; node++) {
            text.append("\nnode ").append(node).append(": rank ").append(mesh.rank(node));
            text.append(" parent ").append(mesh.parent(node));
            text.append(" tree ").append(mesh.tree(node));
            text.append(" tells at ").append(mesh.nextTelling(node));
            text.append(" least ").append(mesh.leastRank(node));
            text.append(" below ").append(mesh.below(node)).append(" heard");
            for (int of = 0; of < NODES; of++) {
                text.append(' ').append(mesh.heard(node, of));
            }
        }
        return text.toString();
    }

    static void unchanged(String call, RankMesh mesh, String before) {
        Checks.due("the state after " + call, before, state(mesh));
    }
}
