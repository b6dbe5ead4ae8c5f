/** Promise 8, up to the last of the 512 calls that an object is used for. */
public final class TimeTest {
    public static void main(String[] args) {
        RankMesh mesh = new RankMesh();
        Checks.due("time", 0, mesh.time());
        mesh.pass(1);
        Checks.due("time", 1, mesh.time());
        mesh.pass(100);
        Checks.due("time", 101, mesh.time());
        mesh.link(0, 1, 5);
        mesh.makeRoot(0);
        mesh.renew(0);
        mesh.setRules(1, 1, 1, 1);
        mesh.up(0);
        Checks.due("time after other calls", 101, mesh.time());
        for (int call = 0; call < 500; call++) {
            mesh.pass(100);
        }
        Checks.due("time at the 512th call", 50101, mesh.time());
        Checks.end();
    }
}
