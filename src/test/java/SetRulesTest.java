/** Promise 2. */
public final class SetRulesTest {
    public static void main(String[] args) {
        hysteresisHoldsTheParent();
        hysteresisOfNoneAsksForOne();
        increaseLimitsTheDepth();
        increaseIsOfTheLowestRank();
        leastIntervalIsUsedFromNowOn();
        doublingsLimitTheInterval();
        choosesNothing();
        edgesAreTaken();
        wrongArguments();
        Checks.end();
    }

    /** 1 under 0 with the rank 20, the other root 2 cheaper and cheaper. */
    private static RankMesh betweenRoots(int hysteresis) {
        RankMesh mesh = new RankMesh();
        mesh.setRules(hysteresis, 10000, 1, 4);
        mesh.makeRoot(0);
        mesh.makeRoot(2);
        mesh.link(0, 1, 20);
        mesh.link(1, 2, 30);
        mesh.pass(2);
        Checks.due("parent at first", 0, mesh.parent(1));
        return mesh;
    }

    private static void hysteresisHoldsTheParent() {
        RankMesh mesh = betweenRoots(5);
        mesh.link(1, 2, 16);
        Checks.due("parent, less by 4 of 5", 0, mesh.parent(1));
        Checks.due("rank, less by 4 of 5", 20, mesh.rank(1));
        mesh.link(1, 2, 15);
        Checks.due("parent, less by 5 of 5", 2, mesh.parent(1));
        Checks.due("rank, less by 5 of 5", 15, mesh.rank(1));
        Checks.due("tree, less by 5 of 5", 12, mesh.tree(1));
    }

    private static void hysteresisOfNoneAsksForOne() {
        RankMesh mesh = new RankMesh();
        mesh.makeRoot(0);
        mesh.makeRoot(2);
        mesh.link(1, 2, 20);
        mesh.pass(2);
        mesh.link(0, 1, 20);
        mesh.pass(2);
        Checks.due("heard of 0", 0, mesh.heard(1, 0));
        Checks.due("parent at equal ranks", 2, mesh.parent(1));
        mesh.link(1, 0, 19);
        Checks.due("parent, less by 1", 0, mesh.parent(1));
    }

    private static void increaseLimitsTheDepth() {
        RankMesh mesh = new RankMesh();
        mesh.setRules(0, 7, 1, 4);
        mesh.link(0, 1, 10);
        mesh.makeRoot(0);
        mesh.pass(1);
        mesh.link(0, 1, 17);
        Checks.due("rank 7 deeper", 17, mesh.rank(1));
        mesh.link(0, 1, 18);
        Checks.due("rank 8 deeper", 10000, mesh.rank(1));
        Checks.due("parent 8 deeper", -1, mesh.parent(1));
        Checks.due("tree 8 deeper", 10, mesh.tree(1));
    }

    private static void increaseIsOfTheLowestRank() {
        RankMesh mesh = new RankMesh();
        mesh.setRules(0, 7, 1, 4);
        mesh.link(0, 1, 10);
        mesh.makeRoot(0);
        mesh.pass(1);
        mesh.link(0, 1, 3);
        mesh.link(0, 1, 10);
        Checks.due("rank 7 above the lowest", 10, mesh.rank(1));
        mesh.link(0, 1, 11);
        Checks.due("rank 8 above the lowest", 10000, mesh.rank(1));
        mesh.link(0, 1, 60);
        Checks.due("rank of one that had none", 60, mesh.rank(1));
        mesh.link(0, 1, 10);
        Checks.due("rank, the lowest one kept", 10, mesh.rank(1));
        mesh.link(0, 1, 11);
        Checks.due("rank 8 above the lowest kept", 10000, mesh.rank(1));
        mesh.renew(0);
        mesh.pass(1);
        Checks.due("rank in a new version", 11, mesh.rank(1));
        mesh.link(0, 1, 18);
        Checks.due("rank 7 above the lowest of the version", 18, mesh.rank(1));
        mesh.link(0, 1, 19);
        Checks.due("rank 8 above the lowest of the version", 10000, mesh.rank(1));
    }

    private static void leastIntervalIsUsedFromNowOn() {
        RankMesh mesh = new RankMesh();
        mesh.setRules(0, 10000, 8, 6);
        Checks.due("nextTelling stays", 1, mesh.nextTelling(3));
        mesh.makeRoot(4);
        Checks.due("nextTelling of one reset", 8, mesh.nextTelling(4));
        mesh.pass(1);
        Checks.due("nextTelling, the interval that ran doubled", 3, mesh.nextTelling(3));
        mesh.pass(7);
        Checks.due("nextTelling, 8 doubled", 24, mesh.nextTelling(4));
    }

    private static void doublingsLimitTheInterval() {
        RankMesh mesh = new RankMesh();
        mesh.setRules(0, 10000, 3, 1);
        mesh.makeRoot(0);
        tells(mesh, new int[] {3, 9, 15, 21, 27});
        mesh.setRules(0, 10000, 3, 2);
        tells(mesh, new int[] {33, 45, 57});
        mesh.setRules(0, 10000, 1, 0);
        Checks.due("nextTelling stays", 69, mesh.nextTelling(0));
        tells(mesh, new int[] {69, 70, 71});
        mesh.setRules(0, 10000, 8, 6);
        tells(mesh, new int[] {72, 74, 78, 86, 102, 134, 198, 326, 582, 1094, 1606});
    }

    private static void tells(RankMesh mesh, int[] ticks) {
        for (int tick : ticks) {
            Checks.due("nextTelling", tick, mesh.nextTelling(0));
            Meshes.passTo(mesh, tick);
        }
    }

    private static void choosesNothing() {
        RankMesh mesh = betweenRoots(50);
        mesh.link(1, 2, 5);
        Checks.due("parent", 0, mesh.parent(1));
        String before = Meshes.state(mesh);
        mesh.setRules(0, 10000, 1, 4);
        Meshes.unchanged("setRules", mesh, before);
        mesh.link(1, 9, 0);
        Checks.due("parent when it chooses", 2, mesh.parent(1));
    }

    private static void edgesAreTaken() {
        RankMesh mesh = new RankMesh();
        mesh.setRules(0, 0, 1, 0);
        mesh.setRules(100, 10000, 8, 6);
    }

    private static void wrongArguments() {
        int[][] wrong = {
            {-1, 0, 1, 0}, {101, 0, 1, 0}, {0, -1, 1, 0}, {0, 10001, 1, 0},
            {0, 0, 0, 0}, {0, 0, 9, 0}, {0, 0, -1, 0}, {0, 0, 1, -1}, {0, 0, 1, 7},
            {Integer.MAX_VALUE, 0, 1, 0}, {0, Integer.MIN_VALUE, 1, 0},
            {0, 0, Integer.MAX_VALUE, 0}, {0, 0, 1, Integer.MAX_VALUE},
        };
        RankMesh mesh = betweenRoots(0);
        for (int[] rules : wrong) {
            Checks.badArgument("setRules",
                    () -> mesh.setRules(rules[0], rules[1], rules[2], rules[3]));
        }
        Checks.badArgument("setRules", () -> mesh.setRules(100, 0, 8, 7));
        mesh.link(1, 2, 19);
        Checks.due("parent by the old hysteresis", 2, mesh.parent(1));
        mesh.link(1, 2, 100);
        mesh.link(1, 0, 0);
        Checks.due("rank by the old increase", 100, mesh.rank(1));
        Checks.due("nextTelling by the old least interval", mesh.time() + 1, mesh.nextTelling(1));
    }
}
