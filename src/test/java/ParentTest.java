/** Promise 10, and what is promised of candidates for the choice. */
public final class ParentTest {
    public static void main(String[] args) {
        leastRankThenLowestNumber();
        parentIsKeptAtEqualRanks();
        parentThatIsNoCandidateIsLeft();
        parentBeyondAllRanksIsLeft();
        poisonOfANewVersionOutdatesTheOld();
        ownVersionOutdatesTheOld();
        neighboursVersionOutdatesTheOld();
        otherTreesAreNotAskedForVersions();
        wrongNodes();
        Checks.end();
    }

    private static void leastRankThenLowestNumber() {
        RankMesh mesh = new RankMesh();
        mesh.makeRoot(2);
        mesh.makeRoot(5);
        mesh.makeRoot(7);
        mesh.pass(40);
        mesh.link(3, 7, 4);
        mesh.link(3, 5, 4);
        mesh.link(3, 2, 6);
        Checks.due("parent of a lone node", -1, mesh.parent(3));
        mesh.pass(20);
        Checks.due("parent", 5, mesh.parent(3));
        Checks.due("parent of a root", -1, mesh.parent(5));
        mesh.makeRoot(3);
        mesh.link(3, 5, 6);
        mesh.link(3, 7, 6);
        mesh.endRoot(3);
        Checks.due("parent of three equal ones", 2, mesh.parent(3));
    }

    private static void parentIsKeptAtEqualRanks() {
        RankMesh mesh = new RankMesh();
        mesh.makeRoot(2);
        mesh.makeRoot(5);
        mesh.link(3, 5, 6);
        mesh.pass(20);
        mesh.link(3, 2, 6);
        mesh.pass(20);
        Checks.due("heard of 2", 0, mesh.heard(3, 2));
        Checks.due("parent", 5, mesh.parent(3));
    }

    private static void parentThatIsNoCandidateIsLeft() {
        RankMesh mesh = new RankMesh();
        mesh.setRules(100, 10000, 1, 4);
        mesh.makeRoot(2);
        mesh.makeRoot(5);
        mesh.link(3, 5, 6);
        mesh.pass(20);
        mesh.link(3, 2, 60);
        mesh.pass(20);
        Checks.due("parent", 5, mesh.parent(3));
        mesh.endRoot(5);
        mesh.pass(1);
        Checks.due("parent, 5 goes below 3", 3, mesh.parent(5));
        Checks.due("heard of 5", 12, mesh.heard(3, 5));
        Checks.due("parent", 2, mesh.parent(3));
        Checks.due("rank", 60, mesh.rank(3));
    }

    /** 1 and 2 rise in a loop; 3 is below 1, by which its rank becomes 10000. */
    private static void parentBeyondAllRanksIsLeft() {
        RankMesh mesh = new RankMesh();
        mesh.setRules(100, 10000, 1, 4);
        mesh.makeRoot(0);
        mesh.link(0, 1, 100);
        mesh.link(1, 2, 50);
        mesh.pass(5);
        mesh.link(0, 1, 0);
        mesh.link(1, 2, 50);
        for (int round = 0; round < 194; round++) {
            mesh.pass(1);
            mesh.link(2, 1, 50);
        }
        Checks.due("rank of 1", 9900, mesh.rank(1));
        mesh.link(3, 1, 51);
        mesh.pass(1);
        mesh.link(2, 1, 50);
        mesh.link(3, 2, 1);
        mesh.pass(1);
        Checks.due("heard of 1", 9900, mesh.heard(3, 1));
        Checks.due("heard of 2", 9950, mesh.heard(3, 2));
        Checks.due("parent of 3 at equal ranks", 1, mesh.parent(3));
        mesh.link(3, 1, 99);
        Checks.due("rank by the parent", 9999, mesh.rank(3));
        mesh.link(3, 1, 100);
        Checks.due("parent of 3", 2, mesh.parent(3));
        Checks.due("rank of 3", 9951, mesh.rank(3));
    }

    /** 2 hears of 1 that it has no rank in version 2: then 3 with version 1 is outdated. */
    private static void poisonOfANewVersionOutdatesTheOld() {
        RankMesh mesh = new RankMesh();
        mesh.makeRoot(0);
        mesh.link(0, 1, 50);
        mesh.link(0, 2, 10);
        mesh.link(2, 3, 10);
        mesh.pass(20);
        Checks.due("tree of 3", 10, mesh.tree(3));
        mesh.link(0, 2, 0);
        mesh.renew(0);
        mesh.pass(1);
        Checks.due("tree of 1", 20, mesh.tree(1));
        mesh.link(0, 1, 0);
        Checks.due("rank of 1", 10000, mesh.rank(1));
        mesh.makeRoot(2);
        mesh.endRoot(2);
        Checks.due("heard of 3", 20, mesh.heard(2, 3));
        Checks.due("parent of 2", 3, mesh.parent(2));
        mesh.link(1, 2, 5);
        Checks.due("parent of 2", 3, mesh.parent(2));
        mesh.pass(1);
        Checks.due("heard of 1", 10000, mesh.heard(2, 1));
        Checks.due("tree of 1", 20, mesh.tree(1));
        Checks.due("parent of 2", -1, mesh.parent(2));
        Checks.due("rank of 2", 10000, mesh.rank(2));
        Checks.due("tree of 2", 10, mesh.tree(2));
    }

    /** 5 is in version 2 by 0, and the last that it heard of 2 is version 1. */
    private static void ownVersionOutdatesTheOld() {
        RankMesh mesh = twoWays(5);
        mesh.renew(0);
        mesh.pass(1);
        Checks.due("tree of 5", 20, mesh.tree(5));
        Checks.due("tree of 2", 10, mesh.tree(2));
        mesh.link(0, 5, 0);
        Checks.due("heard of 2", 10, mesh.heard(5, 2));
        Checks.due("parent of 5", -1, mesh.parent(5));
        Checks.due("rank of 5", 10000, mesh.rank(5));
        Checks.due("tree of 5", 20, mesh.tree(5));
        mesh.pass(2);
        Checks.due("parent of 5, 2 in version 2", 2, mesh.parent(5));
        Checks.due("rank of 5, 2 in version 2", 30, mesh.rank(5));
    }

    private static void neighboursVersionOutdatesTheOld() {
        RankMesh mesh = twoWays(50);
        Checks.due("parent of 5", 2, mesh.parent(5));
        mesh.makeRoot(5);
        mesh.renew(0);
        mesh.pass(1);
        mesh.endRoot(5);
        Checks.due("heard of 2", 10, mesh.heard(5, 2));
        Checks.due("parent of 5", 0, mesh.parent(5));
        Checks.due("tree of 5", 20, mesh.tree(5));
        Checks.due("rank of 5", 50, mesh.rank(5));
    }

    /** From 5 to the root 0 at this cost, or by 2 and 1 at a cost of 30. */
    private static RankMesh twoWays(int cost) {
        RankMesh mesh = new RankMesh();
        mesh.makeRoot(0);
        mesh.link(0, 1, 5);
        mesh.link(1, 2, 5);
        mesh.link(2, 5, 20);
        mesh.link(0, 5, cost);
        mesh.pass(40);
        return mesh;
    }

    private static void otherTreesAreNotAskedForVersions() {
        RankMesh mesh = new RankMesh();
        mesh.makeRoot(0);
        mesh.renew(0);
        mesh.renew(0);
        mesh.makeRoot(1);
        mesh.link(0, 2, 9);
        mesh.link(1, 2, 8);
        mesh.pass(20);
        Checks.due("parent", 1, mesh.parent(2));
        Checks.due("tree", 11, mesh.tree(2));
        mesh.link(1, 2, 10);
        Checks.due("parent", 0, mesh.parent(2));
        Checks.due("tree", 30, mesh.tree(2));
        mesh.link(1, 2, 3);
        Checks.due("parent", 1, mesh.parent(2));
    }

    private static void wrongNodes() {
        RankMesh mesh = new RankMesh();
        for (int none : Meshes.NO_NODES) {
            Checks.outOfBounds("parent", () -> mesh.parent(none));
        }
        Checks.due("parent", -1, mesh.parent(9));
    }
}
