/** What is promised of choosing, behind the candidates: each sentence at its edge. */
public final class ChoiceTest {
    public static void main(String[] args) {
        rootDoesNotChoose();
        leastRankBy();
        lowestNumberOfSeveral();
        littleHysteresis();
        greatHysteresis();
        parentThatIsNoCandidateIsNotHeld();
        withoutACandidate();
        lowestRankIsTheLesserOne();
        lowestRankIsNewInAnotherTree();
        lowestRankIsNewInAnotherVersion();
        lowestRankStaysWithoutARank();
        Checks.end();
    }

    private static void rootDoesNotChoose() {
        RankMesh mesh = Meshes.full(1);
        mesh.makeRoot(3);
        mesh.makeRoot(4);
        mesh.pass(9);
        mesh.link(3, 4, 1);
        Checks.due("heard by a root", 0, mesh.heard(3, 4));
        Checks.due("heard by a root", 1, mesh.heard(3, 0));
        Checks.due("rank of a root", 0, mesh.rank(3));
        Checks.due("parent of a root", -1, mesh.parent(3));
        Checks.due("tree of a root", 13, mesh.tree(3));
    }

    /** Each has heard of all others that they are roots, and chooses when it is none any more. */
    private static RankMesh amongRoots() {
        RankMesh mesh = Meshes.full(50);
        for (int each = 0; each < Meshes.NODES; each++) {
            mesh.makeRoot(each);
        }
        mesh.pass(1);
        return mesh;
    }

    private static void leastRankBy() {
        for (int node = 0; node < Meshes.NODES; node++) {
            for (int near = 0; near < Meshes.NODES; near++) {
                if (near != node) {
                    RankMesh mesh = amongRoots();
                    mesh.link(node, near, 49);
                    mesh.endRoot(node);
                    Checks.due("parent of " + node, near, mesh.parent(node));
                    Checks.due("rank of " + node, 49, mesh.rank(node));
                }
            }
        }
    }

    private static void lowestNumberOfSeveral() {
        for (int node = 0; node < Meshes.NODES; node++) {
            RankMesh mesh = amongRoots();
            mesh.endRoot(node);
            Checks.due("parent, all alike", node == 0 ? 1 : 0, mesh.parent(node));
            mesh = amongRoots();
            int high = node == 9 ? 8 : 9;
            int low = node == 5 ? 6 : 5;
            mesh.link(node, high, 3);
            mesh.link(node, low, 3);
            mesh.endRoot(node);
            Checks.due("parent, two alike", low, mesh.parent(node));
        }
    }

    /** 1 at 150 from the root 0 by 4, before it is linked to the root 2. */
    private static RankMesh atHundredAndFifty(int hysteresis) {
        RankMesh mesh = new RankMesh();
        mesh.setRules(hysteresis, 10000, 1, 4);
        mesh.makeRoot(0);
        mesh.makeRoot(2);
        mesh.link(0, 4, 100);
        mesh.link(4, 1, 50);
        mesh.pass(9);
        Checks.due("parent of 1", 4, mesh.parent(1));
        Checks.due("rank of 1", 150, mesh.rank(1));
        return mesh;
    }

    private static void greatHysteresis() {
        for (int hysteresis : new int[] {51, 99, 100}) {
            RankMesh mesh = atHundredAndFifty(hysteresis);
            mesh.link(1, 2, 150 - hysteresis + 1);
            mesh.pass(20);
            Checks.due("heard of 2", 0, mesh.heard(1, 2));
            Checks.due("parent, less by one less", 4, mesh.parent(1));
            mesh.link(1, 2, 150 - hysteresis);
            Checks.due("parent, less by as much", 2, mesh.parent(1));
            Checks.due("rank", 150 - hysteresis, mesh.rank(1));
        }
    }

    private static void littleHysteresis() {
        for (int hysteresis : new int[] {0, 1, 2}) {
            RankMesh mesh = heldAtFifty(hysteresis);
            int least = Math.max(1, hysteresis);
            mesh.link(1, 2, 50);
            Checks.due("parent at equal ranks", 5, mesh.parent(1));
            mesh.link(1, 2, 50 - least + 1);
            Checks.due("parent, less by one less", 5, mesh.parent(1));
            mesh.link(1, 2, 50 - least);
            Checks.due("parent, less by as much", 2, mesh.parent(1));
        }
    }

    /** 1 below the root 5, and it hears of the root 2, whose number is lower. */
    private static RankMesh heldAtFifty(int hysteresis) {
        RankMesh mesh = new RankMesh();
        mesh.setRules(hysteresis, 10000, 1, 4);
        mesh.makeRoot(5);
        mesh.link(1, 5, 50);
        mesh.pass(9);
        mesh.makeRoot(2);
        mesh.link(1, 2, 60);
        mesh.pass(1);
        Checks.due("heard of 2", 0, mesh.heard(1, 2));
        Checks.due("parent", 5, mesh.parent(1));
        return mesh;
    }

    private static void parentThatIsNoCandidateIsNotHeld() {
        RankMesh mesh = heldAtFifty(100);
        mesh.link(1, 5, 0);
        Checks.due("parent", 2, mesh.parent(1));
        Checks.due("rank", 60, mesh.rank(1));
    }

    private static void withoutACandidate() {
        RankMesh mesh = heldAtFifty(0);
        mesh.renew(5);
        mesh.pass(1);
        Checks.due("tree", 25, mesh.tree(1));
        mesh.link(1, 2, 0);
        mesh.link(1, 5, 0);
        Checks.due("parent", -1, mesh.parent(1));
        Checks.due("rank", 10000, mesh.rank(1));
        Checks.due("tree stays", 25, mesh.tree(1));
        mesh.pass(50);
        Checks.due("tree stays", 25, mesh.tree(1));
    }

    /** 1 below the root 0 with the lowest rank that is named; the increase is 7 from then on. */
    private static RankMesh withLowest(int lowest) {
        RankMesh mesh = new RankMesh();
        mesh.makeRoot(0);
        mesh.link(0, 1, lowest);
        mesh.pass(9);
        Checks.due("rank", lowest, mesh.rank(1));
        mesh.setRules(0, 7, 1, 4);
        return mesh;
    }

    private static void lowestIs(RankMesh mesh, int other, int lowest) {
        mesh.link(1, other, lowest + 7);
        Checks.due("rank, 7 above the lowest", lowest + 7, mesh.rank(1));
        mesh.link(1, other, lowest + 8);
        Checks.due("rank, 8 above the lowest", 10000, mesh.rank(1));
    }

    private static void lowestRankIsTheLesserOne() {
        lowestIs(withLowest(20), 0, 20);
        RankMesh risen = withLowest(20);
        risen.link(0, 1, 26);
        lowestIs(risen, 0, 20);
        RankMesh fallen = withLowest(20);
        fallen.link(0, 1, 19);
        lowestIs(fallen, 0, 19);
        RankMesh least = withLowest(20);
        least.link(0, 1, 1);
        lowestIs(least, 0, 1);
    }

    /** From 0 to the root 2 in the same version, and back. */
    private static void lowestRankIsNewInAnotherTree() {
        lowestIs(inTreeOfTwo(), 2, 60);
        RankMesh mesh = inTreeOfTwo();
        mesh.link(0, 1, 80);
        mesh.pass(20);
        mesh.link(1, 2, 0);
        Checks.due("tree", 10, mesh.tree(1));
        Checks.due("rank", 80, mesh.rank(1));
        lowestIs(mesh, 0, 80);
    }

    private static RankMesh inTreeOfTwo() {
        RankMesh mesh = withLowest(20);
        mesh.makeRoot(2);
        mesh.link(1, 2, 60);
        mesh.pass(9);
        mesh.link(0, 1, 0);
        Checks.due("tree", 12, mesh.tree(1));
        Checks.due("rank", 60, mesh.rank(1));
        return mesh;
    }

    private static void lowestRankIsNewInAnotherVersion() {
        RankMesh mesh = withLowest(20);
        mesh.link(0, 1, 27);
        mesh.renew(0);
        mesh.pass(1);
        Checks.due("tree", 20, mesh.tree(1));
        Checks.due("rank", 27, mesh.rank(1));
        lowestIs(mesh, 0, 27);
    }

    private static void lowestRankStaysWithoutARank() {
        RankMesh mesh = withLowest(20);
        mesh.link(0, 1, 28);
        Checks.due("rank", 10000, mesh.rank(1));
        mesh.link(0, 1, 27);
        Checks.due("rank of one that had none", 27, mesh.rank(1));
        lowestIs(mesh, 0, 20);
        mesh.link(0, 1, 90);
        Checks.due("rank of one that had none", 90, mesh.rank(1));
        mesh.link(0, 1, 28);
        Checks.due("rank, 8 above the lowest", 10000, mesh.rank(1));
    }
}
