/** Promise 7. */
public final class PassTest {
    public static void main(String[] args) {
        countsTellings();
        intervalsDouble();
        tellsByRisingNumbers();
        resetAheadOfItsTurnTellsNotInThisTick();
        ticksAddUp();
        tellsWhatStandsThen();
        wrongArguments();
        Checks.end();
    }

    private static void countsTellings() {
        RankMesh mesh = new RankMesh();
        Checks.due("pass, all tell", 10, mesh.pass(1));
        Checks.due("pass, none tells", 0, mesh.pass(1));
        Checks.due("pass, all tell", 10, mesh.pass(1));
        Checks.due("pass, once in four ticks", 10, mesh.pass(4));
        Checks.due("pass, once in seven ticks", 0, mesh.pass(7));
        Checks.due("pass", 10, mesh.pass(1));
        Checks.due("pass, at 31, 47, 63, 79, 95, 111", 60, mesh.pass(100));
        Checks.due("time", 115, mesh.time());
    }

    private static void intervalsDouble() {
        RankMesh mesh = new RankMesh();
        int[] ticks = {1, 3, 7, 15, 31, 47, 63};
        for (int tick : ticks) {
            Checks.due("nextTelling", tick, mesh.nextTelling(2));
            mesh.pass(tick - mesh.time());
        }
        RankMesh other = new RankMesh();
        other.setRules(0, 10000, 1, 0);
        Checks.due("pass without doublings", 1000, other.pass(100));
    }

    /** With rising numbers a rank goes 1, 2, 3 in one tick only against their order. */
    private static void tellsByRisingNumbers() {
        RankMesh mesh = new RankMesh();
        mesh.setRules(0, 10000, 1, 0);
        mesh.link(9, 8, 1);
        mesh.link(8, 7, 1);
        mesh.makeRoot(9);
        mesh.pass(1);
        Checks.due("rank of 8", 1, mesh.rank(8));
        Checks.due("rank of 7, 8 told ahead of 9", 10000, mesh.rank(7));
        mesh.pass(1);
        Checks.due("rank of 7", 2, mesh.rank(7));
    }

    private static void resetAheadOfItsTurnTellsNotInThisTick() {
        RankMesh mesh = new RankMesh();
        mesh.link(4, 3, 1);
        mesh.link(4, 5, 1);
        mesh.makeRoot(4);
        Checks.due("pass, without 5 only", 9, mesh.pass(1));
        Checks.due("nextTelling of 3", 2, mesh.nextTelling(3));
        Checks.due("nextTelling of 5", 2, mesh.nextTelling(5));
        Checks.due("heard of 3, which told ahead", 10000, mesh.heard(4, 3));
        Checks.due("heard of 5, which did not tell", -1, mesh.heard(4, 5));
    }

    private static void ticksAddUp() {
        RankMesh one = Meshes.line();
        RankMesh other = Meshes.line();
        int tellings = 0;
        for (int tick = 0; tick < 100; tick++) {
            tellings += other.pass(1);
        }
        Checks.due("pass of 100", tellings, one.pass(100));
        Checks.due("the state after 100 ticks", Meshes.state(one), Meshes.state(other));
    }

    private static void tellsWhatStandsThen() {
        RankMesh mesh = Meshes.line();
        mesh.pass(30);
        mesh.link(0, 1, 0);
        Checks.due("rank of 2 that has not heard it", 10, mesh.rank(2));
        mesh.pass(1);
        Checks.due("heard of one without a rank", 10000, mesh.heard(2, 1));
        Checks.due("rank of 2 that has heard it", 10000, mesh.rank(2));
        Checks.due("rank of 3 that has not heard it", 15, mesh.rank(3));
        mesh.pass(1);
        Checks.due("rank of 3 that has heard it", 10000, mesh.rank(3));
        Checks.due("tree of 3", 10, mesh.tree(3));
    }

    private static void wrongArguments() {
        RankMesh mesh = Meshes.line();
        mesh.pass(6);
        String before = Meshes.state(mesh);
        int[] wrong = {0, -1, 101, Integer.MIN_VALUE, Integer.MAX_VALUE};
        for (int ticks : wrong) {
            Checks.badArgument("pass", () -> mesh.pass(ticks));
        }
        Meshes.unchanged("wrong calls", mesh, before);
    }
}
