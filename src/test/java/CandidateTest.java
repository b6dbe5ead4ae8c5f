/** What is promised of candidates: each condition at its edge. */
public final class CandidateTest {
    public static void main(String[] args) {
        heardNothing();
        heardNoRank();
        rankByIsJustBelowNoRank();
        rankByIsNoRank();
        rankByTheParentBecomesNoRank();
        versionAsHighAsThatOfAnother();
        versionLowerThanThatOfAnother();
        versionLowerThanItsOwn();
        rankHeardIsLessThanItsOwn();
        rankHeardIsAsMuchAsItsOwn();
        rankByIsAtMostTheLowestPlusTheIncrease();
        otherTreeIsNotAskedForDepth();
        otherTreeOfTheSameVersionIsNotAskedForDepth();
        otherVersionIsNotAskedForDepth();
        withoutARankItIsNotAskedForDepth();
        Checks.end();
    }

    private static void hasNone(RankMesh mesh, int node, int tree) {
        Checks.due("rank", 10000, mesh.rank(node));
        Checks.due("parent", -1, mesh.parent(node));
        Checks.due("tree", tree, mesh.tree(node));
    }

    private static void has(RankMesh mesh, int node, int rank, int parent, int tree) {
        Checks.due("rank", rank, mesh.rank(node));
        Checks.due("parent", parent, mesh.parent(node));
        Checks.due("tree", tree, mesh.tree(node));
    }

    /** A link to a root alone is no candidate: the root must have told. */
    private static void heardNothing() {
        RankMesh mesh = new RankMesh();
        mesh.makeRoot(0);
        mesh.link(0, 1, 1);
        mesh.link(1, 0, 1);
        Checks.due("heard", -1, mesh.heard(1, 0));
        hasNone(mesh, 1, -1);
    }

    private static void heardNoRank() {
        RankMesh mesh = new RankMesh();
        mesh.link(1, 3, 1);
        mesh.pass(1);
        Checks.due("heard", 10000, mesh.heard(3, 1));
        hasNone(mesh, 3, -1);
        RankMesh poisoned = Meshes.line();
        poisoned.pass(20);
        poisoned.link(2, 9, 1);
        poisoned.link(0, 1, 0);
        poisoned.pass(2);
        Checks.due("heard of a tree without a rank", 10000, poisoned.heard(9, 2));
        hasNone(poisoned, 9, -1);
    }

    private static void rankByIsJustBelowNoRank() {
        int[][] sums = {{9998, 1}, {9950, 49}, {9902, 97}, {9900, 99}};
        for (int[] sum : sums) {
            RankMesh mesh = Meshes.deep(sum[0]);
            mesh.link(3, 1, sum[1]);
            mesh.pass(1);
            Checks.due("heard", sum[0], mesh.heard(3, 1));
            has(mesh, 3, 9999, 1, 10);
            Checks.due("nextTelling of one with news", mesh.time() + 1, mesh.nextTelling(3));
        }
    }

    private static void rankByIsNoRank() {
        int[][] sums = {{9999, 1}, {9998, 2}, {9950, 50}, {9902, 98}, {9900, 100}, {9999, 100}};
        for (int[] sum : sums) {
            RankMesh mesh = Meshes.deep(sum[0]);
            mesh.link(3, 1, sum[1]);
            int before = mesh.nextTelling(3);
            mesh.pass(1);
            Checks.due("heard", sum[0], mesh.heard(3, 1));
            hasNone(mesh, 3, -1);
            Checks.due("nextTelling of one without news", before, mesh.nextTelling(3));
        }
    }

    private static void rankByTheParentBecomesNoRank() {
        RankMesh mesh = Meshes.deep(9950);
        mesh.link(3, 1, 49);
        mesh.pass(1);
        has(mesh, 3, 9999, 1, 10);
        mesh.link(3, 1, 50);
        hasNone(mesh, 3, 10);
        mesh.link(3, 1, 49);
        has(mesh, 3, 9999, 1, 10);
        // Behind a rank of 9999 there is none, whatever the link costs.
        mesh.link(3, 4, 1);
        mesh.pass(1);
        Checks.due("heard", 9999, mesh.heard(4, 3));
        hasNone(mesh, 4, -1);
    }

    /** 3 at 10 from the root by 1 and at 20 by 2. */
    private static RankMesh square() {
        RankMesh mesh = new RankMesh();
        mesh.makeRoot(0);
        mesh.link(0, 1, 5);
        mesh.link(1, 3, 5);
        mesh.link(0, 2, 8);
        mesh.link(2, 3, 12);
        mesh.pass(30);
        return mesh;
    }

    /** 3 ends as a root, so that it has no version itself. */
    private static void versionAsHighAsThatOfAnother() {
        RankMesh mesh = square();
        mesh.makeRoot(3);
        mesh.endRoot(3);
        has(mesh, 3, 10, 1, 10);
        mesh.link(1, 3, 0);
        has(mesh, 3, 20, 2, 10);
    }

    /** 1, with the lower rank, is cut off in version 1, as 2 tells version 2. */
    private static void versionLowerThanThatOfAnother() {
        RankMesh mesh = square();
        mesh.setRules(0, 10000, 8, 0);
        mesh.link(0, 1, 0);
        mesh.makeRoot(3);
        mesh.setRules(0, 10000, 1, 0);
        mesh.renew(0);
        mesh.pass(2);
        Checks.due("heard of 1", 5, mesh.heard(3, 1));
        Checks.due("heard of 2", 8, mesh.heard(3, 2));
        mesh.endRoot(3);
        has(mesh, 3, 20, 2, 20);
        mesh.makeRoot(3);
        mesh.link(2, 3, 0);
        mesh.endRoot(3);
        has(mesh, 3, 10, 1, 10);
    }

    private static void versionLowerThanItsOwn() {
        RankMesh mesh = square();
        mesh.setRules(0, 10000, 8, 0);
        mesh.link(0, 1, 0);
        mesh.setRules(0, 10000, 1, 0);
        mesh.renew(0);
        mesh.pass(2);
        has(mesh, 3, 20, 2, 20);
        mesh.link(2, 3, 0);
        Checks.due("heard of 1", 5, mesh.heard(3, 1));
        hasNone(mesh, 3, 20);
        // It has no rank now, but its version still.
        mesh.link(1, 3, 1);
        hasNone(mesh, 3, 20);
    }

    /** 1 and 2 below the root 0, and linked; then 1 has only 2 left. */
    private static RankMesh triangle(int increase, int costOfTwo, int costBetween) {
        RankMesh mesh = new RankMesh();
        mesh.setRules(0, increase, 1, 4);
        mesh.makeRoot(0);
        mesh.link(0, 1, 50);
        mesh.link(0, 2, costOfTwo);
        mesh.link(1, 2, costBetween);
        mesh.pass(9);
        Checks.due("rank of 1", 50, mesh.rank(1));
        Checks.due("rank of 2", costOfTwo, mesh.rank(2));
        mesh.link(0, 1, 0);
        return mesh;
    }

    private static void rankHeardIsLessThanItsOwn() {
        has(triangle(10000, 49, 1), 1, 50, 2, 10);
        has(triangle(10000, 49, 100), 1, 149, 2, 10);
    }

    private static void rankHeardIsAsMuchAsItsOwn() {
        hasNone(triangle(10000, 50, 1), 1, 10);
        hasNone(triangle(10000, 51, 1), 1, 10);
    }

    private static void rankByIsAtMostTheLowestPlusTheIncrease() {
        has(triangle(0, 49, 1), 1, 50, 2, 10);
        hasNone(triangle(0, 49, 2), 1, 10);
        has(triangle(1, 49, 2), 1, 51, 2, 10);
        hasNone(triangle(1, 49, 3), 1, 10);
        has(triangle(99, 49, 100), 1, 149, 2, 10);
        hasNone(triangle(98, 49, 100), 1, 10);
    }

    /** 1 is near to the root 0, and far from the root 9, whose version is lower. */
    private static void otherTreeIsNotAskedForDepth() {
        RankMesh mesh = new RankMesh();
        mesh.setRules(0, 0, 1, 4);
        mesh.makeRoot(0);
        mesh.renew(0);
        otherTreeIsTaken(mesh, 20);
    }

    private static void otherTreeOfTheSameVersionIsNotAskedForDepth() {
        RankMesh mesh = new RankMesh();
        mesh.setRules(0, 0, 1, 4);
        mesh.makeRoot(0);
        otherTreeIsTaken(mesh, 10);
    }

    private static void otherTreeIsTaken(RankMesh mesh, int treeBefore) {
        mesh.makeRoot(9);
        mesh.link(0, 1, 5);
        mesh.link(9, 8, 100);
        mesh.link(8, 1, 100);
        mesh.pass(9);
        has(mesh, 1, 5, 0, treeBefore);
        has(mesh, 8, 100, 9, 19);
        Checks.due("heard of 8", 100, mesh.heard(1, 8));
        mesh.link(0, 1, 0);
        has(mesh, 1, 200, 8, 19);
    }

    /** 3 near, and in version 1 as before; 2 far, in version 2 and beyond the increase. */
    private static void otherVersionIsNotAskedForDepth() {
        RankMesh mesh = new RankMesh();
        mesh.setRules(0, 0, 1, 4);
        mesh.makeRoot(0);
        mesh.link(0, 3, 1);
        mesh.link(3, 1, 4);
        mesh.link(0, 2, 100);
        mesh.link(2, 1, 100);
        mesh.pass(9);
        has(mesh, 1, 5, 3, 10);
        mesh.setRules(0, 0, 8, 4);
        mesh.link(0, 3, 0);
        mesh.setRules(0, 0, 1, 4);
        mesh.renew(0);
        mesh.pass(2);
        Checks.due("heard of 3", 1, mesh.heard(1, 3));
        has(mesh, 1, 200, 2, 20);
    }

    /** 2 is a child of 1: deeper than 1 was, and its rank and one link beyond the increase. */
    private static void withoutARankItIsNotAskedForDepth() {
        RankMesh mesh = Meshes.line();
        mesh.setRules(0, 0, 1, 4);
        mesh.pass(9);
        mesh.link(0, 1, 0);
        Checks.due("heard of 2", 10, mesh.heard(1, 2));
        hasNone(mesh, 1, 10);
        mesh.link(1, 9, 0);
        has(mesh, 1, 15, 2, 10);
    }
}
