/** Long runs of calls, by a counter's numbers, answered by the class and by the model. */
public final class ModelTest {
    private static final int RUNS = 600;
    private static final int CALLS = 250;
    private static final int DEEP_RUNS = 400;
    private static final int DEEP_CALLS = 512;
    private static final int[] ODD_NUMBERS = {
        -1, 10, 101, 10001, -10000, Integer.MIN_VALUE, Integer.MAX_VALUE, 1 << 30, 7, 9,
    };

    private interface Call {
        int answer();
    }

    private static long seed;
    private static int nodes;
    private static int looped;
    private static int lost;
    private static int deepest;
    private static int refused;

    public static void main(String[] args) {
        for (int run = 0; run < RUNS; run++) {
            compareRun(run);
        }
        for (int run = 0; run < DEEP_RUNS; run++) {
            compareDeepRun(run);
        }
        // Runs that never come to these would leave the words on them untested.
        Checks.due("loops were found", 1, looped > 500 ? 1 : 0);
        Checks.due("ranks were lost", 1, lost > 500 ? 1 : 0);
        Checks.due("the deepest rank is near the edge", 1, deepest > 9950 ? 1 : 0);
        Checks.due("calls were refused", 1, refused > 500 ? 1 : 0);
        Checks.end();
    }

    private static int next(int below) {
        seed = seed * 6364136223846793005L + 1442695040888963407L;
        return (int) ((seed >>> 33) % below);
    }

    private static int node() {
        return next(40) == 0 ? ODD_NUMBERS[next(ODD_NUMBERS.length)] : next(nodes);
    }

    private static int number(int least, int most) {
        return next(60) == 0 ? ODD_NUMBERS[next(ODD_NUMBERS.length)]
                : least + next(most - least + 1);
    }

    private static void compareRun(int run) {
        seed = run;
        nodes = 3 + next(8);
        RankMesh mesh = new RankMesh();
        ModelMesh model = new ModelMesh();
        StringBuilder calls = new StringBuilder();
        for (int call = 0; call < CALLS; call++) {
            String wrong = compareCall(mesh, model, calls);
            if (wrong.isEmpty()) {
                wrong = difference(mesh, model);
            }
            if (!wrong.isEmpty()) {
                Checks.report("run " + run + ":" + calls + ": " + wrong);
                return;
            }
        }
    }

    /** Without a root, ranks without an end rise up to no rank. */
    private static void compareDeepRun(int run) {
        seed = run;
        nodes = 3 + next(3);
        RankMesh mesh = new RankMesh();
        ModelMesh model = new ModelMesh();
        StringBuilder calls = new StringBuilder();
        String wrong = startDeepRun(mesh, model, calls);
        for (int call = nodes * nodes; call < DEEP_CALLS && wrong.isEmpty(); call++) {
            wrong = compareDeepCall(mesh, model, calls) + difference(mesh, model);
        }
        if (!wrong.isEmpty()) {
            Checks.report("deep run " + run + ":" + calls + ": " + wrong);
        }
    }

    private static String startDeepRun(RankMesh mesh, ModelMesh model, StringBuilder calls) {
        StringBuilder wrong = new StringBuilder();
        wrong.append(compareRules(mesh, model, calls, next(101), 10000, 1));
        for (int one = 0; one < nodes; one++) {
            for (int other = 0; other < one; other++) {
                wrong.append(compareLink(mesh, model, calls, one, other, 60 + next(41)));
            }
        }
        calls.append("\n makeRoot 0, pass 20, endRoot 0");
        wrong.append(both(() -> mesh.makeRoot(0), () -> model.makeRoot(0)));
        wrong.append(both(() -> mesh.pass(20), () -> model.pass(20)));
        wrong.append(both(() -> none(() -> mesh.endRoot(0)), () -> none(() -> model.endRoot(0))));
        return wrong.toString();
    }

    private static String compareDeepCall(RankMesh mesh, ModelMesh model, StringBuilder calls) {
        int a = next(nodes);
        int b = next(nodes);
        switch (next(14)) {
            case 0:
                return compareLink(mesh, model, calls, a, b, 40 + next(61));
            case 1:
                return compareRules(mesh, model, calls, next(101), 10000, 1);
            case 2, 3, 4, 5, 6, 7, 8, 9:
                calls.append("\n pass 1");
                return both(() -> mesh.pass(1), () -> model.pass(1));
            default:
                return compareLink(mesh, model, calls, a, 9, 0);
        }
    }

    private static String compareLink(RankMesh mesh, ModelMesh model, StringBuilder calls,
            int one, int other, int cost) {
        calls.append("\n link ").append(one).append(' ').append(other).append(' ').append(cost);
        return both(() -> mesh.link(one, other, cost), () -> model.link(one, other, cost));
    }

    private static String compareCall(RankMesh mesh, ModelMesh model, StringBuilder calls) {
        int a = node();
        int b = node();
        switch (next(16)) {
            case 0, 1, 2, 3:
                int cost = next(3) == 0 ? 0 : next(2) == 0 ? number(1, 6) : number(1, 100);
                return compareLink(mesh, model, calls, a, b, cost);
            case 4, 5, 6, 7, 8:
                int ticks = next(4) == 0 ? number(1, 100) : number(1, 3);
                calls.append("\n pass ").append(ticks);
                return both(() -> mesh.pass(ticks), () -> model.pass(ticks));
            case 9:
                calls.append("\n makeRoot ").append(a);
                return next(2) == 0 ? ""
                        : both(() -> mesh.makeRoot(a), () -> model.makeRoot(a));
            case 10:
                calls.append("\n endRoot ").append(a);
                return both(() -> none(() -> mesh.endRoot(a)), () -> none(() -> model.endRoot(a)));
            case 11:
                calls.append("\n renew ").append(a);
                return both(() -> mesh.renew(a), () -> model.renew(a));
            case 12:
                return next(3) != 0 ? "" : compareRules(mesh, model, calls,
                        next(2) == 0 ? number(0, 8) : number(0, 100),
                        next(2) == 0 ? number(0, 30) : number(0, 10000),
                        number(1, next(2) == 0 ? 2 : 8));
            case 13, 14:
                calls.append("\n up ").append(a);
                return both(() -> mesh.up(a), () -> model.up(a));
            default:
                calls.append("\n down ").append(a).append(' ').append(b);
                return both(() -> mesh.down(a, b), () -> model.down(a, b))
                        + both(() -> mesh.heard(a, b), () -> model.heard(a, b))
                        + both(() -> mesh.below(a), () -> model.below(a));
        }
    }

    private static String compareRules(RankMesh mesh, ModelMesh model, StringBuilder calls,
            int hysteresis, int increase, int least) {
        int doublings = number(0, 6);
        calls.append("\n setRules ").append(hysteresis).append(' ').append(increase);
        calls.append(' ').append(least).append(' ').append(doublings);
        return both(
                () -> none(() -> mesh.setRules(hysteresis, increase, least, doublings)),
                () -> none(() -> model.setRules(hysteresis, increase, least, doublings)));
    }

    private static int none(Runnable call) {
        call.run();
        return 0;
    }

    private static String both(Call got, Call want) {
        String answer = answer(got);
        String due = answer(want);
        refused += due.startsWith("throws") ? 1 : 0;
        looped += due.equals("-2") ? 1 : 0;
        return answer.equals(due) ? "" : answer + " answered, due is " + due;
    }

    private static String answer(Call call) {
        try {
            return Integer.toString(call.answer());
        } catch (RuntimeException e) {
            return "throws " + e.getClass().getName();
        }
    }

    private static String difference(RankMesh mesh, ModelMesh model) {
        if (mesh.time() != model.time() || mesh.loops() != model.loops()) {
            return "time or loops";
        }
        for (int node = 0; node < Meshes.NODES; node++) {
            lost += model.rank(node) == 10000 && model.tree(node) != -1 ? 1 : 0;
            deepest = Math.max(deepest, model.rank(node) % 10000);
            if (mesh.rank(node) != model.rank(node) || mesh.parent(node) != model.parent(node)
                    || mesh.tree(node) != model.tree(node)
                    || mesh.nextTelling(node) != model.nextTelling(node)
                    || mesh.below(node) != model.below(node)) {
                return "node " + node;
            }
            for (int of = 0; of < Meshes.NODES; of++) {
                if (mesh.heard(node, of) != model.heard(node, of)) {
                    return "heard " + node + " " + of;
                }
            }
        }
        int node = next(Meshes.NODES);
        return next(20) != 0 || mesh.leastRank(node) == model.leastRank(node)
                ? "" : "leastRank " + node;
    }
}
