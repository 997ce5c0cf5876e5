import java.util.Map;
import java.util.TreeMap;
import java.util.TreeSet;

/**
 * "What throws, or answers false, changes nothing but what it says": each such call is made of
 * an object, and all that can be asked of that object is compared with what another one, made
 * alike, answers without that call.
 */
public final class UnchangedTest {
    private static final int NONE = GraphCheck.NONE;
    private static final String NO_NODE = "IndexOutOfBoundsException";
    private static final String NO_ARGUMENT = "IllegalArgumentException";
    private static final String NO_STATE = "IllegalStateException";

    /** Nodes and conditions of made(). */
    private static final int NUMBER = 0;
    private static final int TEXT = 2;
    private static final int LIST = 3;
    private static final int RECORD = 5;
    private static final int TWELVE = 6;
    private static final int LONG_TEXT = 7;
    private static final int IS_NUMBER = 0;
    private static final int IS_TEXT = 1;

    private interface Ask {
        Object of(GraphCheck x);
    }

    private interface Maker {
        GraphCheck made();
    }

    public static void main(String[] args) {
        Due.words("What throws, or answers false, changes nothing but what it says");
        testRefusedNodes();
        testRefusedParts();
        testRefusedRules();
        testRefusedQuestions();
        testRefusedConditions();
        testNoRoom();
        testHardFailure();
        testSoftFailure();
        testAssumption();
        testSettle();
        Due.end();
    }

    /** An object with something of all that there is; a way is the latest. */
    private static GraphCheck made() {
        GraphCheck x = new GraphCheck();
        Due.oneOfEach(x);
        x.append(TEXT, Due.bytes("ab"));
        x.put(LIST, 0, NUMBER);
        x.put(LIST, 0, LIST);
        x.put(RECORD, 0, NUMBER);
        x.put(RECORD, 19, NONE);
        Due.list(x, NONE, NONE, NONE, NONE, NONE, NONE, NONE, NONE, NONE, NONE, NONE, NONE);
        Due.text(x, "x".repeat(39));
        Due.record(x, 1, 0, NUMBER);
        x.condition(7, 0, 0);
        x.condition(7, 2, 0);
        x.condition(11, IS_NUMBER, 0);
        x.condition(13, 0, IS_TEXT);
        x.ignore(19, true);
        x.rules(false, true, 10);
        x.check(IS_NUMBER, NUMBER);
        x.way(LIST, TWELVE);
        return x;
    }

    /** Such an object, in which a check has failed softly; a difference is the latest. */
    private static GraphCheck madeAndFailed() {
        GraphCheck x = made();
        x.check(IS_TEXT, RECORD);
        x.difference(LIST, Due.list(x, NUMBER, NONE));
        return x;
    }

    /** Such an object with 64 nodes and 64 conditions. */
    private static GraphCheck madeAndFilled() {
        GraphCheck x = made();
        Due.fill(x, 64);
        for (int k = x.count(1); k < 64; k++) {
            x.condition(6, k, 0);
        }
        return x;
    }

    /** All that an object answers, each by its call; what changes it comes last. */
    private static Map<String, String> state(GraphCheck x) {
        Map<String, String> state = new TreeMap<>();
        for (int what = 0; what <= 5; what++) {
            int of = what;
            ask(state, "count(" + what + ")", x, y -> y.count(of));
        }
        for (int k = -2; k <= 3; k++) {
            int at = k;
            ask(state, "step(" + k + ")", x, y -> y.step(at));
        }
        for (int k = NONE; k <= 2; k++) {
            int at = k;
            ask(state, "cause(" + k + ", 0)", x, y -> y.cause(at, 0));
            ask(state, "cause(" + k + ", 1)", x, y -> y.cause(at, 1));
        }
        for (int node = NONE; node <= 9; node++) {
            askNode(state, x, node);
        }
        askNode(state, x, 63);
        ask(state, "settle", x, y -> y.settle());
        ask(state, "check", x, y -> y.check(IS_TEXT, NUMBER));
        return state;
    }

    private static void askNode(Map<String, String> state, GraphCheck x, int node) {
        ask(state, "shown(" + node + ")", x, y -> Due.shown(y, node));
        ask(state, "same(" + node + ", RECORD)", x, y -> y.same(node, RECORD));
        for (int condition = 0; condition <= 4; condition++) {
            int by = condition;
            ask(state, "holds(" + condition + ", " + node + ")", x, y -> y.holds(by, node));
        }
    }

    private static void ask(Map<String, String> state, String call, GraphCheck x, Ask ask) {
        state.put(call, answer(x, ask));
    }

    private static String answer(GraphCheck x, Ask ask) {
        try {
            return String.valueOf(ask.of(x));
        } catch (RuntimeException e) {
            return e.getClass().getSimpleName();
        }
    }

    /** What an object answers to a call, and which answers are other ones after it. */
    private static void dueChanges(Maker maker, String what, Ask call, String wantAnswer, String... wantChanges) {
        Map<String, String> before = state(maker.made());
        GraphCheck x = maker.made();
        Due.text(what, answer(x, call), wantAnswer);
        Map<String, String> after = state(x);
        TreeSet<String> changes = new TreeSet<>();
        for (String key : before.keySet()) {
            if (!before.get(key).equals(after.get(key))) {
                changes.add(key);
            }
        }
        Due.text("what has changed after " + what, changes.toString(),
                new TreeSet<>(java.util.Arrays.asList(wantChanges)).toString());
    }

    private static void dueRefused(String what, Ask call, String wantAnswer) {
        dueChanges(UnchangedTest::made, what, call, wantAnswer);
        dueChanges(UnchangedTest::madeAndFailed, what + ", of another object", call, wantAnswer);
    }

    private static void testRefusedNodes() {
        dueRefused("group(2, 0)", x -> x.group(2, 0), NO_ARGUMENT);
        dueRefused("group(6, 0)", x -> x.group(6, 0), NO_ARGUMENT);
        dueRefused("group(5, -1)", x -> x.group(5, -1), NO_ARGUMENT);
        dueRefused("group(5, 10)", x -> x.group(5, 10), NO_ARGUMENT);
    }

    private static void testRefusedParts() {
        dueRefused("put into NONE", x -> x.put(NONE, 0, NONE), "false");
        dueRefused("put into node 63", x -> x.put(63, 0, NONE), "false");
        dueRefused("put into node 64", x -> x.put(64, 0, NONE), "false");
        dueRefused("put into a number", x -> x.put(NUMBER, 0, NONE), "false");
        dueRefused("put into a text", x -> x.put(TEXT, 0, NONE), "false");
        dueRefused("put node 63 into a list", x -> x.put(LIST, 0, 63), "false");
        dueRefused("put node -2 into a list", x -> x.put(LIST, 0, -2), "false");
        dueRefused("put node 63 into a record", x -> x.put(RECORD, 0, 63), "false");
        dueRefused("put name -1", x -> x.put(RECORD, -1, NONE), "false");
        dueRefused("put name 20", x -> x.put(RECORD, 20, NONE), "false");
        dueRefused("put a 13th member", x -> x.put(TWELVE, 0, NUMBER), "false");
        dueRefused("append to NONE", x -> x.append(NONE, 'a'), "false");
        dueRefused("append to node 63", x -> x.append(63, 'a'), "false");
        dueRefused("append to a number", x -> x.append(NUMBER, 'a'), "false");
        dueRefused("append to a list", x -> x.append(LIST, 'a'), "false");
        dueRefused("append two to 39", x -> x.append(LONG_TEXT, Due.bytes("ab")), "false");
    }

    private static void testRefusedRules() {
        dueRefused("ignore(-1, true)", x -> x.ignore(-1, true), "false");
        dueRefused("ignore(20, true)", x -> x.ignore(20, true), "false");
        dueRefused("rules(.., 2)", x -> x.rules(true, false, 2), "false");
        dueRefused("rules(.., 1001)", x -> x.rules(true, false, 1001), "false");
    }

    private static void testRefusedQuestions() {
        dueRefused("same(-2, 0)", x -> x.same(-2, 0), NO_NODE);
        dueRefused("same(0, 63)", x -> x.same(0, 63), NO_NODE);
        dueRefused("same that is not so", x -> x.same(NUMBER, NONE), "false");
        dueRefused("difference(-2, 0)", x -> x.difference(-2, 0), NO_NODE);
        dueRefused("difference(0, 63)", x -> x.difference(0, 63), NO_NODE);
        dueRefused("step(-3)", x -> x.step(-3), NO_NODE);
        dueRefused("step(100)", x -> x.step(100), NO_NODE);
        dueRefused("shown(63, 0)", x -> x.shown(63, 0), NO_NODE);
        dueRefused("shown(0, 1)", x -> x.shown(NUMBER, 1), NO_NODE);
        dueRefused("way of a list and a text", x -> x.way(LIST, TEXT), NO_ARGUMENT);
        dueRefused("way of records", x -> x.way(RECORD, RECORD), NO_ARGUMENT);
        dueRefused("way(63, 64)", x -> x.way(63, 64), NO_ARGUMENT);
        dueRefused("cause(2, 0)", x -> x.cause(2, 0), NO_NODE);
        dueRefused("cause(NONE, 2)", x -> x.cause(NONE, 2), NO_NODE);
        dueRefused("count(6)", x -> x.count(6), "-1");
    }

    private static void testRefusedConditions() {
        dueRefused("condition(15, 0, 0)", x -> x.condition(15, 0, 0), NO_ARGUMENT);
        dueRefused("condition(1, NONE, 0)", x -> x.condition(1, NONE, 0), NO_ARGUMENT);
        dueRefused("condition(8, 4, 0)", x -> x.condition(8, 4, 0), NO_ARGUMENT);
        dueRefused("condition(13, 20, 0)", x -> x.condition(13, 20, 0), NO_ARGUMENT);
        dueRefused("holds(4, 0)", x -> x.holds(4, 0), NO_NODE);
        dueRefused("holds(0, 63)", x -> x.holds(0, 63), NO_NODE);
        dueRefused("holds that is not so", x -> x.holds(IS_TEXT, NUMBER), "false");
        dueRefused("check(4, 0)", x -> x.check(4, 0), NO_NODE);
        dueRefused("check(0, 63)", x -> x.check(0, 63), NO_NODE);
        dueRefused("assume(4, 0)", x -> x.assume(4, 0), NO_NODE);
        dueRefused("assume(1, 63)", x -> x.assume(IS_TEXT, 63), NO_NODE);
    }

    private static void testNoRoom() {
        Maker filled = UnchangedTest::madeAndFilled;
        dueChanges(filled, "number", x -> x.number(1L), NO_STATE);
        dueChanges(filled, "real", x -> x.real(1.0), NO_STATE);
        dueChanges(filled, "text", x -> x.text('a'), NO_STATE);
        dueChanges(filled, "group(3, 0)", x -> x.group(3, 0), NO_STATE);
        dueChanges(filled, "group(5, 10)", x -> x.group(5, 10), NO_ARGUMENT);
        dueChanges(filled, "condition(6, 0, 0)", x -> x.condition(6, 0, 0), NO_STATE);
        dueChanges(filled, "condition(6, -1, 0)", x -> x.condition(6, -1, 0), NO_ARGUMENT);
    }

    private static void testHardFailure() {
        Ask check = x -> x.rules(false, false, 10) && x.check(2, LIST);
        dueChanges(UnchangedTest::made, "a check that throws, and rules()", check, NO_STATE,
                "cause(-1, 0)", "cause(-1, 1)", "check");
        dueChanges(UnchangedTest::madeAndFailed, "a check that throws after a failure, and rules()", check, NO_STATE,
                "cause(-1, 0)", "cause(-1, 1)", "check");
    }

    private static void testSoftFailure() {
        dueChanges(UnchangedTest::made, "a check that fails", x -> x.check(2, LIST), "false",
                "cause(-1, 0)", "cause(-1, 1)", "cause(0, 0)", "cause(0, 1)", "count(2)", "count(3)", "settle");
        dueChanges(UnchangedTest::madeAndFailed, "a second one", x -> x.check(2, LIST), "false",
                "cause(-1, 0)", "cause(-1, 1)", "cause(1, 0)", "cause(1, 1)", "count(2)", "count(3)");
    }

    private static void testAssumption() {
        dueChanges(UnchangedTest::made, "an assumption", x -> x.assume(IS_TEXT, NUMBER), "false", "count(4)");
        dueChanges(UnchangedTest::madeAndFailed, "an assumption", x -> x.assume(IS_TEXT, NUMBER), "false", "count(4)");
        dueChanges(UnchangedTest::made, "an assumption that holds", x -> x.assume(IS_NUMBER, NUMBER), "true");
    }

    private static void testSettle() {
        dueChanges(UnchangedTest::made, "settle", x -> x.settle(), "1", "settle");
        dueChanges(UnchangedTest::madeAndFailed, "a settle that throws", x -> x.settle(), "UnsupportedOperationException",
                "cause(0, 0)", "cause(0, 1)", "count(2)", "count(3)", "settle");
    }
}
