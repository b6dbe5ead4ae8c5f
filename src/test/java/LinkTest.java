/** Promise 3. */
public final class LinkTest {
    public static void main(String[] args) {
        answersTheCostBefore();
        linksBothDirections();
        choosesAtOnce();
        forgetsWhatWasHeard();
        forgetsTheVersionToo();
        firstNamedChoosesFirst();
        bothChooseEvenWithoutALink();
        keepsTheParentOfALoop();
        wrongArguments();
        Checks.end();
    }

    private static void answersTheCostBefore() {
        RankMesh mesh = new RankMesh();
        Checks.due("link", 0, mesh.link(3, 7, 100));
        Checks.due("link", 100, mesh.link(3, 7, 1));
        Checks.due("link the other way round", 1, mesh.link(7, 3, 42));
        Checks.due("link, the same cost", 42, mesh.link(3, 7, 42));
        Checks.due("link taken away", 42, mesh.link(3, 7, 0));
        Checks.due("link taken away again", 0, mesh.link(7, 3, 0));
        Checks.due("another link", 0, mesh.link(3, 8, 5));
    }

    private static void linksBothDirections() {
        RankMesh mesh = new RankMesh();
        mesh.link(4, 5, 9);
        mesh.makeRoot(5);
        mesh.makeRoot(6);
        mesh.link(6, 7, 8);
        mesh.pass(2);
        Checks.due("rank of the one named first", 9, mesh.rank(4));
        Checks.due("rank of the one named next", 8, mesh.rank(7));
        Checks.due("heard by the root", 9, mesh.heard(5, 4));
    }

    private static void choosesAtOnce() {
        RankMesh mesh = new RankMesh();
        mesh.link(0, 1, 9);
        mesh.makeRoot(0);
        mesh.pass(4);
        mesh.link(0, 1, 3);
        Checks.due("rank", 3, mesh.rank(1));
        Checks.due("nextTelling of one changed", 5, mesh.nextTelling(1));
        mesh.pass(2);
        int before = mesh.nextTelling(1);
        mesh.link(1, 0, 3);
        Checks.due("nextTelling of one unchanged", before, mesh.nextTelling(1));
        mesh.link(1, 0, 11);
        Checks.due("rank, a greater cost", 11, mesh.rank(1));
        Checks.due("nextTelling of one changed", 7, mesh.nextTelling(1));
    }

    private static void forgetsWhatWasHeard() {
        RankMesh mesh = Meshes.line();
        mesh.pass(5);
        Checks.due("heard", 5, mesh.heard(2, 1));
        Checks.due("heard", 10, mesh.heard(1, 2));
        mesh.link(1, 2, 0);
        Checks.due("heard by 2", -1, mesh.heard(2, 1));
        Checks.due("heard by 1", -1, mesh.heard(1, 2));
        Checks.due("heard of another", 15, mesh.heard(2, 3));
        Checks.due("rank", 10000, mesh.rank(2));
        Checks.due("parent", -1, mesh.parent(2));
        Checks.due("tree stays", 10, mesh.tree(2));
        mesh.link(1, 2, 5);
        Checks.due("heard by 2, linked anew", -1, mesh.heard(2, 1));
        Checks.due("heard by 1, linked anew", -1, mesh.heard(1, 2));
    }

    /** 5 heard version 2 of 0 alone; without that link, version 1 of 2 is not outdated. */
    private static void forgetsTheVersionToo() {
        RankMesh mesh = new RankMesh();
        mesh.makeRoot(0);
        mesh.link(0, 1, 5);
        mesh.link(1, 2, 5);
        mesh.link(2, 5, 20);
        mesh.link(0, 5, 50);
        mesh.makeRoot(5);
        mesh.pass(40);
        mesh.renew(0);
        mesh.pass(1);
        Checks.due("tree of 2", 10, mesh.tree(2));
        mesh.link(0, 5, 0);
        mesh.endRoot(5);
        Checks.due("parent of 5", 2, mesh.parent(5));
        Checks.due("tree of 5", 10, mesh.tree(5));
        Checks.due("rank of 5", 30, mesh.rank(5));
    }

    /** Whoever chooses first, neither tells the other in it: each keeps its own choice. */
    private static void firstNamedChoosesFirst() {
        RankMesh one = Meshes.line();
        RankMesh other = Meshes.line();
        one.pass(9);
        other.pass(9);
        one.link(2, 1, 30);
        other.link(1, 2, 30);
        Checks.due("the state, named the other way", Meshes.state(one), Meshes.state(other));
        Checks.due("rank", 35, one.rank(2));
    }

    private static void bothChooseEvenWithoutALink() {
        RankMesh mesh = Meshes.loop();
        Checks.due("rank of the one named first", 15, mesh.rank(1));
        Checks.due("parent of the one named first", 2, mesh.parent(1));
        Checks.due("nextTelling", 6, mesh.nextTelling(1));
        RankMesh next = new RankMesh();
        next.link(0, 1, 5);
        next.link(1, 2, 5);
        next.makeRoot(0);
        next.pass(5);
        next.link(0, 1, 0);
        Checks.due("rank of one cut off", 10000, next.rank(1));
        next.link(9, 1, 0);
        Checks.due("rank of the one named next", 15, next.rank(1));
    }

    private static void keepsTheParentOfALoop() {
        RankMesh mesh = Meshes.loop();
        Checks.due("parent of 2", 1, mesh.parent(2));
        Checks.due("rank of 2", 10, mesh.rank(2));
        mesh.link(1, 2, 0);
        Checks.due("parent of 1", -1, mesh.parent(1));
        Checks.due("parent of 2", -1, mesh.parent(2));
        Checks.due("rank of 2", 10000, mesh.rank(2));
    }

    private static void wrongArguments() {
        RankMesh mesh = Meshes.line();
        mesh.pass(6);
        String before = Meshes.state(mesh);
        for (int none : Meshes.NO_NODES) {
            Checks.outOfBounds("link", () -> mesh.link(none, 1, 1));
            Checks.outOfBounds("link", () -> mesh.link(1, none, 1));
            Checks.outOfBounds("link to itself", () -> mesh.link(none, none, 1));
            Checks.outOfBounds("link, a wrong cost too", () -> mesh.link(none, 1, 101));
            Checks.outOfBounds("link, a wrong cost too", () -> mesh.link(1, none, -1));
        }
        Checks.badArgument("link to itself", () -> mesh.link(1, 1, 1));
        Checks.badArgument("link to itself", () -> mesh.link(0, 0, 0));
        Checks.badArgument("link", () -> mesh.link(0, 1, -1));
        Checks.badArgument("link", () -> mesh.link(0, 1, 101));
        Checks.badArgument("link", () -> mesh.link(0, 1, Integer.MIN_VALUE));
        Checks.badArgument("link", () -> mesh.link(0, 1, Integer.MAX_VALUE));
        Meshes.unchanged("wrong calls", mesh, before);
        Checks.due("link, the cost before", 5, mesh.link(0, 1, 5));
        Checks.due("link, no link before", 0, mesh.link(0, 2, 0));
    }
}
