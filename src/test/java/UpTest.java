/** Promise 15. */
public final class UpTest {
    public static void main(String[] args) {
        countsSteps();
        endsWithoutAParent();
        goesOnAfterOneOddStep();
        equalRankIsOddAndOneLessIsNot();
        secondOddStepNeedNotFollowTheFirst();
        findsLoops();
        secondOddStepIsALoopEvenToNothing();
        wrongNodes();
        Checks.end();
    }

    private static void countsSteps() {
        RankMesh mesh = new RankMesh();
        mesh.makeRoot(0);
        for (int node = 1; node < Meshes.NODES; node++) {
            mesh.link(node - 1, node, 1);
        }
        mesh.pass(20);
        for (int node = 0; node < Meshes.NODES; node++) {
            Checks.due("up", node, mesh.up(node));
        }
        mesh.makeRoot(5);
        Checks.due("up to the nearer root", 4, mesh.up(9));
        Checks.due("up to the other root", 4, mesh.up(4));
        Checks.due("loops", 0, mesh.loops());
    }

    private static void endsWithoutAParent() {
        RankMesh mesh = Meshes.line();
        mesh.pass(20);
        mesh.link(0, 1, 0);
        Checks.due("up of one without a parent", -1, mesh.up(1));
        Checks.due("up, one odd step to it", -1, mesh.up(3));
        Checks.due("up of a lone node", -1, mesh.up(9));
        Checks.due("loops", 0, mesh.loops());
    }

    /** 1 became deeper than 2, which has not heard of it yet. */
    private static void goesOnAfterOneOddStep() {
        RankMesh mesh = Meshes.line();
        mesh.pass(20);
        mesh.link(0, 1, 10);
        Checks.due("rank of 1", 10, mesh.rank(1));
        Checks.due("rank of 2", 10, mesh.rank(2));
        Checks.due("up, one step to an equal rank", 2, mesh.up(2));
        Checks.due("up, one odd step among more", 3, mesh.up(3));
        Checks.due("loops", 0, mesh.loops());
    }

    /** 3 and 2 have the rank 15; at 1 it is one less, or as much. */
    private static void equalRankIsOddAndOneLessIsNot() {
        RankMesh mesh = Meshes.line();
        mesh.pass(20);
        mesh.link(1, 2, 10);
        mesh.link(0, 1, 14);
        Checks.due("rank of 3", 15, mesh.rank(3));
        Checks.due("rank of 2", 15, mesh.rank(2));
        Checks.due("rank of 1", 14, mesh.rank(1));
        Checks.due("up, an equal rank and one less", 3, mesh.up(3));
        Checks.due("up, one less", 2, mesh.up(2));
        mesh.link(0, 1, 15);
        Checks.due("rank of 1", 15, mesh.rank(1));
        Checks.due("up, one equal rank", 2, mesh.up(2));
        Checks.due("loops", 0, mesh.loops());
        Checks.due("up, two equal ranks", -2, mesh.up(3));
        Checks.due("loops", 1, mesh.loops());
    }

    /** From 4 to 3 an equal rank, to 2 one less, and to 1 an equal one again. */
    private static void secondOddStepNeedNotFollowTheFirst() {
        RankMesh mesh = Meshes.line();
        mesh.link(3, 4, 5);
        mesh.pass(20);
        mesh.link(2, 3, 10);
        mesh.link(0, 1, 10);
        int[] ranks = {0, 10, 10, 20, 20};
        for (int node = 0; node < ranks.length; node++) {
            Checks.due("rank", ranks[node], mesh.rank(node));
        }
        Checks.due("up, the second equal rank alone", 3, mesh.up(3));
        Checks.due("loops", 0, mesh.loops());
        Checks.due("up, both equal ranks", -2, mesh.up(4));
        Checks.due("loops", 1, mesh.loops());
    }

    private static void findsLoops() {
        RankMesh mesh = Meshes.loop();
        Checks.due("up", -2, mesh.up(1));
        Checks.due("up", -2, mesh.up(2));
        Checks.due("up of the root outside", 0, mesh.up(0));
        Checks.due("loops", 2, mesh.loops());
    }

    /** 2 became as deep as 3 below it, and 1 has no rank and no parent. */
    private static void secondOddStepIsALoopEvenToNothing() {
        RankMesh mesh = Meshes.line();
        mesh.pass(20);
        mesh.link(1, 2, 10);
        mesh.link(0, 1, 0);
        Checks.due("rank of 3", 15, mesh.rank(3));
        Checks.due("rank of 2", 15, mesh.rank(2));
        Checks.due("rank of 1", 10000, mesh.rank(1));
        Checks.due("parent of 1", -1, mesh.parent(1));
        Checks.due("up, one odd step", -1, mesh.up(2));
        Checks.due("loops", 0, mesh.loops());
        Checks.due("up, two odd steps", -2, mesh.up(3));
        Checks.due("loops", 1, mesh.loops());
    }

    private static void wrongNodes() {
        RankMesh mesh = Meshes.loop();
        String before = Meshes.state(mesh);
        for (int none : Meshes.NO_NODES) {
            Checks.outOfBounds("up", () -> mesh.up(none));
        }
        Meshes.unchanged("wrong calls", mesh, before);
    }
}
