/** Promise 4. */
public final class MakeRootTest {
    public static void main(String[] args) {
        makesARoot();
        countsVersions();
        countsItsOwnVersionsAlone();
        takesAChildOutOfItsTree();
        rootsDoNotChoose();
        wrongCalls();
        Checks.end();
    }

    private static void makesARoot() {
        RankMesh mesh = new RankMesh();
        mesh.pass(4);
        Checks.due("makeRoot", 1, mesh.makeRoot(9));
        Checks.due("tree", 19, mesh.tree(9));
        Checks.due("rank", 0, mesh.rank(9));
        Checks.due("parent", -1, mesh.parent(9));
        Checks.due("up", 0, mesh.up(9));
        Checks.due("leastRank", 0, mesh.leastRank(9));
        Checks.due("nextTelling", 5, mesh.nextTelling(9));
        Checks.due("makeRoot of another", 1, mesh.makeRoot(0));
        Checks.due("tree", 10, mesh.tree(0));
    }

    private static void countsVersions() {
        RankMesh mesh = new RankMesh();
        mesh.makeRoot(3);
        mesh.endRoot(3);
        Checks.due("makeRoot again", 2, mesh.makeRoot(3));
        mesh.renew(3);
        mesh.renew(3);
        mesh.endRoot(3);
        Checks.due("makeRoot after renew", 5, mesh.makeRoot(3));
        Checks.due("tree", 53, mesh.tree(3));
        Checks.due("makeRoot of another", 1, mesh.makeRoot(4));
    }

    /** 1 is in version 3 of the root 0, and later 0 is in its own old tree. */
    private static void countsItsOwnVersionsAlone() {
        RankMesh mesh = new RankMesh();
        mesh.link(0, 1, 5);
        mesh.makeRoot(0);
        mesh.renew(0);
        mesh.renew(0);
        mesh.pass(5);
        Checks.due("tree of 1", 30, mesh.tree(1));
        Checks.due("makeRoot of a child", 1, mesh.makeRoot(1));
        Checks.due("tree of 1", 11, mesh.tree(1));
        mesh.endRoot(1);
        mesh.endRoot(0);
        Checks.due("tree of 0, its own old one", 30, mesh.tree(0));
        Checks.due("makeRoot", 4, mesh.makeRoot(0));
        Checks.due("makeRoot of 1 again", 2, mesh.makeRoot(1));
    }

    private static void takesAChildOutOfItsTree() {
        RankMesh mesh = Meshes.line();
        mesh.pass(6);
        Checks.due("makeRoot of a child", 1, mesh.makeRoot(2));
        Checks.due("tree", 12, mesh.tree(2));
        Checks.due("rank", 0, mesh.rank(2));
        Checks.due("parent", -1, mesh.parent(2));
        Checks.due("below", 1 << 2 | 1 << 3, mesh.below(2));
        Checks.due("nextTelling", 7, mesh.nextTelling(2));
        Checks.due("heard stays", 5, mesh.heard(2, 1));
    }

    private static void rootsDoNotChoose() {
        RankMesh mesh = Meshes.line();
        mesh.pass(6);
        mesh.makeRoot(1);
        mesh.pass(9);
        Checks.due("heard by a root", 0, mesh.heard(1, 0));
        Checks.due("rank of a root", 0, mesh.rank(1));
        Checks.due("parent of a root", -1, mesh.parent(1));
        Checks.due("tree of a root", 11, mesh.tree(1));
        mesh.link(0, 1, 1);
        Checks.due("parent of a root linked", -1, mesh.parent(1));
        Checks.due("tree of the one next to it", 11, mesh.tree(2));
        Checks.due("rank of the one next to it", 5, mesh.rank(2));
    }

    private static void wrongCalls() {
        RankMesh mesh = Meshes.line();
        mesh.pass(6);
        String before = Meshes.state(mesh);
        for (int none : Meshes.NO_NODES) {
            Checks.outOfBounds("makeRoot", () -> mesh.makeRoot(none));
        }
        Checks.badState("makeRoot of a root", () -> mesh.makeRoot(0));
        Meshes.unchanged("wrong calls", mesh, before);
        Checks.due("renew after a wrong makeRoot", 2, mesh.renew(0));
    }
}
