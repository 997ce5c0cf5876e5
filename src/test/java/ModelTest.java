/**
 * All promises: runs of 512 calls, as many as an object is used for, each answer compared with
 * the Model's. The runs are drawn by a reckoned row of numbers, so they are the same each time.
 * Run with a number as argument, it makes so many runs.
 */
public final class ModelTest {
    private static final int CALLS = 512;
    private static final int FEW_RUNS = 1500;

    private final GraphCheck x = new GraphCheck();
    private final Model model = new Model();
    private final int nodesAtMost;
    private final int kindsWanted;
    private final int run;
    private int calls;
    private long seed;

    private ModelTest(int run) {
        this.run = run;
        seed = run * 7919L + 17L;
        nodesAtMost = run % 3 == 0 ? 64 : 4 + run % 17;
        kindsWanted = run % 5;
    }

    public static void main(String[] args) {
        int runs = args.length > 0 ? Integer.parseInt(args[0]) : FEW_RUNS;
        for (int run = 0; run < runs; run++) {
            new ModelTest(run).runAll();
        }
        Due.end();
    }

    private void runAll() {
        while (calls < CALLS) {
            callOne();
        }
    }

    private int draw(int below) {
        seed = seed * 6364136223846793005L + 1442695040888963407L;
        return (int) ((seed >>> 33) % below);
    }

    private int drawNode() {
        int nodes = (int) model.count(0);
        int kind = draw(24);
        if (kind == 0) {
            return draw(4) == 0 ? Integer.MAX_VALUE : draw(70) - 3;
        }
        return kind < 3 || nodes == 0 ? -1 : draw(nodes);
    }

    private int drawCondition() {
        int conditions = (int) model.count(1);
        if (conditions == 0 || draw(30) == 0) {
            return draw(70) - 3;
        }
        return draw(2) == 0 ? draw(conditions) : conditions - 1 - draw(Math.min(conditions, 6));
    }

    private int drawName() {
        return draw(12) == 0 ? draw(26) - 3 : draw(2) * 9 + draw(2);
    }

    private long drawBytes() {
        long bytes = 0;
        String letters = "\0\0\0aab*?\"\\";
        int size = draw(8);
        for (int k = 0; k <= size; k++) {
            bytes = bytes << 8 | (draw(30) == 0 ? 255 : letters.charAt(draw(letters.length())));
        }
        return bytes;
    }

    private long drawNumber() {
        return draw(12) == 0 ? (draw(2) == 0 ? Long.MIN_VALUE : Long.MAX_VALUE - draw(2)) : draw(7) - 3;
    }

    private double drawReal() {
        return draw(12) == 0 ? draw(1 << 30) * 512.0 * -1048576.0 : (draw(41) - 20) * 0.125;
    }

    private void callOne() {
        int kind = draw(100);
        if (kind < 24) {
            callMaker(kind);
        } else if (kind < 48) {
            callChanger(kind);
        } else if (kind < 72) {
            callCompare(kind);
        } else {
            callConditions(kind);
        }
    }

    /** Asks and compares, if there are calls left. */
    private void due(String call, Ask ask, long want) {
        if (calls < CALLS) {
            calls++;
            Due.is("run " + run + ", call " + calls + ": " + call, asked(ask), want);
        }
    }

    private void callMaker(int kind) {
        if (model.count(0) >= nodesAtMost && draw(20) > 0) {
            callCompare(48 + kind);
            return;
        }
        if (kind < 3) {
            long v = drawNumber();
            due("number(" + v + ")", () -> x.number(v), model.number(v));
        } else if (kind < 6) {
            double v = drawReal();
            due("real(" + v + ")", () -> x.real(v), model.real(v));
        } else if (kind < 9) {
            long bytes = drawBytes();
            due("text(" + bytes + ")", () -> x.text(bytes), model.text(bytes));
        } else {
            int of = draw(20) == 0 ? draw(9) - 1 : kindsWanted < 3 ? kindsWanted + 3 : 3 + draw(3);
            int type = draw(20) == 0 ? draw(13) - 1 : draw(2);
            due("group(" + of + ", " + type + ")", () -> x.group(of, type), model.group(of, type));
        }
    }

    private void callChanger(int kind) {
        int node = drawNode();
        int name = drawName();
        if (kind < 42) {
            int value = drawNode();
            due("put(" + node + ", " + name + ", " + value + ")", () -> x.put(node, name, value),
                    model.put(node, name, value));
        } else if (kind < 45) {
            long bytes = drawBytes();
            due("append(" + node + ", " + bytes + ")", () -> x.append(node, bytes),
                    model.append(node, bytes));
        } else if (kind < 46) {
            boolean isIgnored = draw(3) == 0;
            due("ignore(" + name + ", " + isIgnored + ")", () -> x.ignore(name, isIgnored),
                    model.ignore(name, isIgnored));
        } else {
            boolean types = draw(3) > 0;
            boolean soft = draw(3) > 0;
            int limit = draw(4) == 0 ? draw(1010) : draw(60);
            due("rules(" + types + ", " + soft + ", " + limit + ")", () -> x.rules(types, soft, limit),
                    model.rules(types, soft, limit));
        }
    }

    private void callCompare(int kind) {
        int a = drawNode();
        int b = drawNode();
        int k = draw(20) == 0 ? draw(1010) - 3 : draw(6) - 2;
        if (kind < 52) {
            due("same(" + a + ", " + b + ")", () -> x.same(a, b), model.same(a, b));
        } else if (kind < 57) {
            due("difference(" + a + ", " + b + ")", () -> x.difference(a, b), model.difference(a, b));
            dueSteps();
        } else if (kind < 60) {
            due("step(" + k + ")", () -> x.step(k), model.step(k));
        } else if (kind < 65) {
            dueShown(a);
            due("shown(" + a + ", " + k + ")", () -> x.shown(a, k), model.shown(a, k));
        } else if (kind < 70) {
            due("way(" + a + ", " + b + ")", () -> x.way(a, b), model.way(a, b));
            dueSteps();
        } else {
            due("count(" + k + ")", () -> x.count(k), model.count(k));
            due("count(5)", () -> x.count(5), model.count(5));
        }
    }

    private void dueSteps() {
        boolean isThere = true;
        for (int k = -3; isThere; k++) {
            int at = k;
            long want = model.step(at);
            due("step(" + at + ")", () -> x.step(at), want);
            isThere = k < 0 || want != Model.NO_INDEX;
        }
    }

    private void dueShown(int node) {
        long size = model.shown(node, -1);
        due("shown(" + node + ", -1)", () -> x.shown(node, -1), size);
        for (int k = draw(9); size != Model.NO_INDEX && k <= size; k += 1 + draw(49)) {
            int at = k;
            due("shown(" + node + ", " + at + ")", () -> x.shown(node, at), model.shown(node, at));
        }
    }

    private void callConditions(int kind) {
        int c = drawCondition();
        int node = drawNode();
        if (kind < 82) {
            callCondition();
        } else if (kind < 88) {
            due("holds(" + c + ", " + node + ")", () -> x.holds(c, node), model.holds(c, node));
        } else if (kind < 94) {
            due("check(" + c + ", " + node + ")", () -> x.check(c, node), model.check(c, node));
            dueCauses();
        } else if (kind < 95) {
            due("assume(" + c + ", " + node + ")", () -> x.assume(c, node), model.assume(c, node));
        } else if (kind < 99) {
            int k = draw(36) - 2;
            int which = draw(10) == 0 ? draw(6) - 2 : draw(2);
            due("cause(" + k + ", " + which + ")", () -> x.cause(k, which), model.cause(k, which));
        } else {
            due("settle()", () -> x.settle(), model.settle());
        }
        int what = draw(5);
        due("count(" + what + ")", () -> x.count(what), model.count(what));
    }

    private void dueCauses() {
        int last = (int) model.count(2) - 1;
        for (int which = 0; which < 2; which++) {
            int at = which;
            due("cause(-1, " + at + ")", () -> x.cause(-1, at), model.cause(-1, at));
            due("cause(" + last + ", " + at + ")", () -> x.cause(last, at), model.cause(last, at));
        }
    }

    private void callCondition() {
        int kind = draw(30) == 0 ? draw(20) - 2 : draw(15);
        int a;
        int b = drawCondition();
        if (kind == 6) {
            a = draw(6) - (draw(9) == 0 ? 2 : 0);
        } else if (kind == 7) {
            a = draw(6) - (draw(9) == 0 ? 2 : 0);
        } else if (kind == 13) {
            a = drawName();
        } else if (kind < 6 || kind == 14) {
            a = drawNode();
            b = drawNode();
        } else {
            a = drawCondition();
        }
        int first = a;
        int second = b;
        due("condition(" + kind + ", " + first + ", " + second + ")",
                () -> x.condition(kind, first, second), model.condition(kind, first, second));
    }

    private interface Ask {
        Object answer();
    }

    private static long asked(Ask ask) {
        try {
            Object answer = ask.answer();
            return answer instanceof Boolean ? ((Boolean) answer ? 1 : 0) : (Integer) answer;
        } catch (RuntimeException e) {
            return numberOf(e);
        }
    }

    /** The exception's number; the machine's own exceptions have none. */
    private static long numberOf(RuntimeException e) {
        switch (e.getClass().getSimpleName()) {
            case "IndexOutOfBoundsException":
                return Model.NO_INDEX;
            case "IllegalArgumentException":
                return Model.NO_ARGUMENT;
            case "IllegalStateException":
                return Model.NO_STATE;
            case "UnsupportedOperationException":
                return Model.NOT_SUPPORTED;
            default:
                throw new IllegalStateException("the machine threw", e);
        }
    }
}
