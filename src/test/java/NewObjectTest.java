/** Promise 1. */
public final class NewObjectTest {
    public static void main(String[] args) {
        startsEmpty();
        startsWithoutHysteresis();
        startsWithTheGreatestIncrease();
        objectsShareNothing();
        Checks.end();
    }

    private static void startsEmpty() {
        RankMesh mesh = new RankMesh();
        Checks.due("time", 0, mesh.time());
        Checks.due("loops", 0, mesh.loops());
        for (int node = 0; node < Meshes.NODES; node++) {
            Checks.due("rank", 10000, mesh.rank(node));
            Checks.due("parent", -1, mesh.parent(node));
            Checks.due("tree", -1, mesh.tree(node));
            Checks.due("nextTelling", 1, mesh.nextTelling(node));
            Checks.due("leastRank", 10000, mesh.leastRank(node));
            Checks.due("below", 1 << node, mesh.below(node));
            Checks.due("up", -1, mesh.up(node));
            for (int of = 0; of < Meshes.NODES; of++) {
                Checks.due("heard", -1, mesh.heard(node, of));
            }
        }
        for (int one = 0; one < Meshes.NODES; one++) {
            for (int other = one + 1; other < Meshes.NODES; other++) {
                Checks.due("link to none", 0, mesh.link(one, other, 0));
            }
        }
        Checks.due("NO_RANK", 10000, RankMesh.NO_RANK);
    }

    private static void startsWithoutHysteresis() {
        RankMesh mesh = new RankMesh();
        mesh.link(0, 2, 10);
        mesh.link(1, 2, 10);
        mesh.makeRoot(0);
        mesh.makeRoot(1);
        mesh.pass(2);
        Checks.due("parent at equal ranks", 0, mesh.parent(2));
        mesh.link(1, 2, 9);
        Checks.due("parent at a rank 1 less", 1, mesh.parent(2));
    }

    private static void startsWithTheGreatestIncrease() {
        RankMesh mesh = new RankMesh();
        mesh.link(0, 1, 1);
        mesh.makeRoot(0);
        mesh.pass(1);
        Checks.due("rank", 1, mesh.rank(1));
        mesh.link(0, 1, 100);
        Checks.due("rank 99 deeper", 100, mesh.rank(1));
    }

    private static void objectsShareNothing() {
        RankMesh one = new RankMesh();
        String before = Meshes.state(one);
        Meshes.line().pass(20);
        Meshes.unchanged("calls of another object", one, before);
    }
}
