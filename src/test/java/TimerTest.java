/** What is promised of telling, of timers and of ticks: each sentence at its edge. */
public final class TimerTest {
    public static void main(String[] args) {
        leastAndGreatestIntervals();
        greatestIntervalAsItIsSetNow();
        runningIntervalStaysAsItIs();
        resetMakesTheLeastIntervalThatIsSetNow();
        newsOfTheTreeAlone();
        newsOfTheVersionAlone();
        newsOfTheRankAlone();
        newsOfTheParentAlone();
        noNews();
        tellsToItsNeighboursAlone();
        resetAheadOfItsTurn();
        resetBehindItsTurn();
        leastAndGreatestNumberOfTicks();
        Checks.end();
    }

    /** A root, whose timer is reset under these rules, tells at these ticks. */
    private static void tells(int least, int doublings, int[] ticks) {
        RankMesh mesh = new RankMesh();
        mesh.setRules(0, 10000, least, doublings);
        mesh.makeRoot(0);
        for (int tick : ticks) {
            Checks.due("nextTelling by " + least + ", " + doublings, tick, mesh.nextTelling(0));
            Meshes.passTo(mesh, tick - 1);
            Checks.due("nextTelling, one tick ahead", tick, mesh.nextTelling(0));
            Meshes.passTo(mesh, tick);
        }
    }

    private static void leastAndGreatestIntervals() {
        tells(1, 0, new int[] {1, 2, 3, 4});
        tells(1, 1, new int[] {1, 3, 5, 7});
        tells(1, 6, new int[] {1, 3, 7, 15, 31, 63, 127, 191, 255});
        tells(8, 0, new int[] {8, 16, 24, 32});
        tells(8, 5, new int[] {8, 24, 56, 120, 248, 504, 760, 1016});
        tells(8, 6, new int[] {8, 24, 56, 120, 248, 504, 1016, 1528, 2040});
        tells(7, 3, new int[] {7, 21, 49, 105, 161, 217});
    }

    private static void greatestIntervalAsItIsSetNow() {
        RankMesh mesh = new RankMesh();
        mesh.setRules(0, 10000, 8, 6);
        mesh.makeRoot(0);
        Meshes.passTo(mesh, 504);
        Checks.due("nextTelling, an interval of 512", 1016, mesh.nextTelling(0));
        mesh.setRules(0, 10000, 1, 0);
        Checks.due("nextTelling, the interval runs on", 1016, mesh.nextTelling(0));
        Meshes.passTo(mesh, 1016);
        Checks.due("nextTelling, the greatest one is 1", 1017, mesh.nextTelling(0));
        mesh.setRules(0, 10000, 8, 6);
        mesh.pass(1);
        Checks.due("nextTelling, 1 doubled", 1019, mesh.nextTelling(0));
    }

    /** Rules that have gone again when the node tells leave no mark on its interval. */
    private static void runningIntervalStaysAsItIs() {
        RankMesh mesh = new RankMesh();
        mesh.setRules(0, 10000, 8, 6);
        mesh.makeRoot(0);
        Meshes.passTo(mesh, 120);
        Checks.due("nextTelling, an interval of 128", 248, mesh.nextTelling(0));
        mesh.setRules(0, 10000, 1, 0);
        mesh.pass(1);
        mesh.setRules(0, 10000, 8, 6);
        Meshes.passTo(mesh, 248);
        Checks.due("nextTelling, 128 doubled", 504, mesh.nextTelling(0));
    }

    private static void resetMakesTheLeastIntervalThatIsSetNow() {
        RankMesh mesh = new RankMesh();
        mesh.pass(5);
        mesh.setRules(0, 10000, 8, 1);
        mesh.makeRoot(0);
        Checks.due("nextTelling after makeRoot", 13, mesh.nextTelling(0));
        mesh.pass(2);
        mesh.renew(0);
        Checks.due("nextTelling after renew", 15, mesh.nextTelling(0));
        mesh.setRules(0, 10000, 3, 1);
        mesh.pass(1);
        mesh.endRoot(0);
        Checks.due("nextTelling after endRoot", 11, mesh.nextTelling(0));
        Meshes.passTo(mesh, 11);
        Checks.due("nextTelling, 3 doubled", 17, mesh.nextTelling(0));
        mesh.setRules(0, 10000, 1, 1);
        mesh.makeRoot(0);
        Checks.due("nextTelling after makeRoot", 12, mesh.nextTelling(0));
    }

    /** 1 has the same rank from the root 0 as from the root 9, and 2 is below 1. */
    private static RankMesh betweenRoots() {
        RankMesh mesh = new RankMesh();
        mesh.makeRoot(0);
        mesh.makeRoot(9);
        mesh.link(0, 1, 5);
        mesh.link(9, 1, 5);
        mesh.link(1, 2, 5);
        mesh.pass(60);
        Checks.due("tree of 1", 10, mesh.tree(1));
        Checks.due("tree of 2", 10, mesh.tree(2));
        return mesh;
    }

    private static void newsOfTheTreeAlone() {
        RankMesh mesh = betweenRoots();
        mesh.link(0, 1, 0);
        int before = mesh.nextTelling(2);
        mesh.pass(1);
        Checks.due("it was not to tell", 1, before > 62 ? 1 : 0);
        Checks.due("tree of 2", 19, mesh.tree(2));
        Checks.due("rank of 2", 10, mesh.rank(2));
        Checks.due("parent of 2", 1, mesh.parent(2));
        Checks.due("nextTelling", 62, mesh.nextTelling(2));
    }

    private static void newsOfTheVersionAlone() {
        RankMesh mesh = betweenRoots();
        mesh.renew(0);
        mesh.pass(2);
        Checks.due("tree of 2", 20, mesh.tree(2));
        Checks.due("rank of 2", 10, mesh.rank(2));
        Checks.due("parent of 2", 1, mesh.parent(2));
        Checks.due("nextTelling", 63, mesh.nextTelling(2));
    }

    private static void newsOfTheRankAlone() {
        RankMesh mesh = betweenRoots();
        mesh.link(1, 2, 6);
        Checks.due("tree of 2", 10, mesh.tree(2));
        Checks.due("rank of 2", 11, mesh.rank(2));
        Checks.due("parent of 2", 1, mesh.parent(2));
        Checks.due("nextTelling", 61, mesh.nextTelling(2));
    }

    private static void newsOfTheParentAlone() {
        RankMesh mesh = betweenRoots();
        mesh.link(2, 3, 5);
        mesh.link(0, 3, 5);
        mesh.pass(60);
        mesh.link(1, 2, 0);
        Checks.due("tree of 2", 10, mesh.tree(2));
        Checks.due("rank of 2", 10, mesh.rank(2));
        Checks.due("parent of 2", 3, mesh.parent(2));
        Checks.due("nextTelling", 121, mesh.nextTelling(2));
    }

    private static void noNews() {
        RankMesh mesh = betweenRoots();
        int before = mesh.nextTelling(2);
        mesh.link(1, 2, 5);
        mesh.link(2, 8, 1);
        mesh.link(2, 8, 0);
        Checks.due("nextTelling", before, mesh.nextTelling(2));
        mesh.link(1, 2, 0);
        Checks.due("nextTelling without a rank", 61, mesh.nextTelling(2));
        mesh.pass(9);
        before = mesh.nextTelling(2);
        mesh.link(1, 2, 0);
        Checks.due("nextTelling, no rank as before", before, mesh.nextTelling(2));
    }

    private static void tellsToItsNeighboursAlone() {
        RankMesh mesh = new RankMesh();
        mesh.makeRoot(4);
        mesh.link(4, 0, 1);
        mesh.link(4, 9, 1);
        mesh.link(0, 7, 1);
        mesh.link(4, 8, 1);
        mesh.link(4, 8, 0);
        mesh.pass(1);
        for (int node = 0; node < Meshes.NODES; node++) {
            int due = node == 0 || node == 9 ? 0 : -1;
            Checks.due("heard of the root", due, mesh.heard(node, 4));
        }
        mesh.pass(1);
        Checks.due("heard of one told of the root", 1, mesh.heard(7, 0));
    }

    /** At 3 the nodes 0 to 9 would tell again; the news of 0 come to all others ahead of that. */
    private static void resetAheadOfItsTurn() {
        RankMesh mesh = Meshes.full(1);
        mesh.pass(2);
        mesh.makeRoot(0);
        Checks.due("nextTelling of a node", 3, mesh.nextTelling(5));
        Checks.due("pass, 0 alone", 1, mesh.pass(1));
        for (int node = 1; node < Meshes.NODES; node++) {
            Checks.due("nextTelling of one reset", 4, mesh.nextTelling(node));
            Checks.due("heard from before", 10000, mesh.heard(0, node));
        }
        Checks.due("pass, all others", 9, mesh.pass(1));
    }

    /** The news of 9 come to all others when they have told in this tick. */
    private static void resetBehindItsTurn() {
        RankMesh mesh = Meshes.full(1);
        mesh.pass(2);
        mesh.makeRoot(9);
        Checks.due("pass, all", 10, mesh.pass(1));
        for (int node = 0; node < 9; node++) {
            Checks.due("nextTelling of one reset", 4, mesh.nextTelling(node));
        }
        Checks.due("nextTelling of the root", 5, mesh.nextTelling(9));
        Checks.due("pass, all others", 9, mesh.pass(1));
    }

    private static void leastAndGreatestNumberOfTicks() {
        RankMesh mesh = new RankMesh();
        mesh.setRules(0, 10000, 1, 0);
        Checks.due("pass of 1", 10, mesh.pass(1));
        Checks.due("time", 1, mesh.time());
        Checks.due("pass of 100", 1000, mesh.pass(100));
        Checks.due("time", 101, mesh.time());
        Checks.badArgument("pass of 0", () -> mesh.pass(0));
        Checks.badArgument("pass of 101", () -> mesh.pass(101));
        Checks.due("time", 101, mesh.time());
        mesh.setRules(0, 10000, 8, 6);
        Checks.due("pass, at 102, 104, 108, 116, 132", 50, mesh.pass(50));
    }
}
