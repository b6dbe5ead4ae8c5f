/** Promise 16. */
public final class LoopsTest {
    public static void main(String[] args) {
        RankMesh mesh = Meshes.loop();
        Checks.due("loops", 0, mesh.loops());
        for (int packet = 1; packet <= 5; packet++) {
            Checks.due("up", -2, mesh.up(1));
            Checks.due("loops", packet, mesh.loops());
        }
        Checks.due("up", 0, mesh.up(0));
        Checks.due("up", -1, mesh.up(9));
        Checks.outOfBounds("up", () -> mesh.up(10));
        Checks.due("loops after other packets", 5, mesh.loops());
        mesh.link(1, 2, 0);
        mesh.pass(100);
        Checks.due("loops after the loop", 5, mesh.loops());
        Checks.due("loops of another object", 0, new RankMesh().loops());
        Checks.end();
    }
}
