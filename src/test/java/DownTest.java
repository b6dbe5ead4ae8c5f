/** Promise 18. */
public final class DownTest {
    public static void main(String[] args) {
        goesDownAWay();
        goesDownALoop();
        wrongCalls();
        Checks.end();
    }

    private static void goesDownAWay() {
        RankMesh mesh = new RankMesh();
        mesh.makeRoot(0);
        for (int node = 1; node < Meshes.NODES; node++) {
            mesh.link(node - 1, node, 1);
        }
        mesh.pass(20);
        for (int from = 0; from < Meshes.NODES; from++) {
            for (int to = from + 1; to < Meshes.NODES; to++) {
                Checks.due("down", from + 1, mesh.down(from, to));
                int above = from;
                int below = to;
                Checks.badState("down, the way up", () -> mesh.down(below, above));
            }
        }
    }

    private static void goesDownALoop() {
        RankMesh mesh = Meshes.loop();
        Checks.due("down", 2, mesh.down(1, 2));
        Checks.due("down", 1, mesh.down(2, 1));
        Checks.badState("down to itself in a loop", () -> mesh.down(1, 1));
        Checks.badState("down into a loop", () -> mesh.down(0, 1));
        Checks.badState("down out of a loop", () -> mesh.down(1, 0));
    }

    private static void wrongCalls() {
        RankMesh mesh = Meshes.line();
        mesh.pass(20);
        String before = Meshes.state(mesh);
        for (int none : Meshes.NO_NODES) {
            Checks.outOfBounds("down", () -> mesh.down(none, 0));
            Checks.outOfBounds("down", () -> mesh.down(0, none));
            Checks.outOfBounds("down", () -> mesh.down(none, none));
        }
        Checks.badState("down to itself", () -> mesh.down(2, 2));
        Checks.badState("down to a lone node", () -> mesh.down(0, 9));
        Checks.badState("down from a lone node", () -> mesh.down(9, 0));
        Checks.badState("down to one above", () -> mesh.down(2, 1));
        Meshes.unchanged("wrong calls", mesh, before);
    }
}
