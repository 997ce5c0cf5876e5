/**
 * The edges of conditions, a test for each of the document's words that name one: CONDITIONS of
 * 'Terms', and promises 15 and 16.
 */
public final class ConditionEdgesTest {
    private static final int NONE = GraphCheck.NONE;
    private static final int EQUAL = 0;
    private static final int LESS = 1;
    private static final int MORE = 2;
    private static final int NEAR = 3;
    private static final int STARTS = 4;
    private static final int GLOB = 5;
    private static final int SIZE = 6;
    private static final int KIND = 7;
    private static final int NOT = 8;
    private static final int ALL = 9;
    private static final int ANY = 10;
    private static final int EACH = 11;
    private static final int SOME = 12;
    private static final int FIELD = 13;
    private static final int HAS = 14;

    public static void main(String[] args) {
        testMaking();
        testEqual();
        testLessAndMore();
        testNear();
        testStarts();
        testGlob();
        testSize();
        testKind();
        testNot();
        testAllAndAny();
        testEachAndSome();
        testField();
        testHas();
        testHoldsOfNone();
        Due.end();
    }

    private static void testMaking() {
        testOneByOne();
        testNoSuchKind();
        testOfNodes();
        testOfTwoNodes();
        testEqualOfNone();
        testOfConditions();
        testMadeBefore();
        testOfSize();
        testOfKind();
        testOfName();
        testNotLookedAt();
        testRoom();
        testFirstException();
        testRefusedIsNotMade();
    }

    private static void dueWrong(GraphCheck x, int kind, int a, int b) {
        Due.throwsNoArgument("condition(" + kind + ", " + a + ", " + b + ")", () -> x.condition(kind, a, b));
    }

    private static void testOneByOne() {
        Due.words("CONDITIONS 0 .. 63");
        GraphCheck x = new GraphCheck();
        for (int k = 0; k < 64; k++) {
            Due.is("condition", x.condition(SIZE, k, 0), k);
        }
        int text = Due.text(x, "x".repeat(40));
        Due.yes("condition 40", x.holds(40, text));
        Due.no("condition 63", x.holds(63, text));
        Due.no("condition 0", x.holds(0, text));
        Due.throwsNoNode("condition 64", () -> x.holds(64, text));
    }

    private static void testNoSuchKind() {
        Due.words("Promise 15: IllegalArgumentException if there is no such kind");
        GraphCheck x = new GraphCheck();
        x.number(0L);
        x.condition(SIZE, 0, 0);
        for (int kind : Due.outside(-1, 15)) {
            dueWrong(x, kind, 0, 0);
        }
        for (int kind = 0; kind <= 14; kind++) {
            Due.is("kind " + kind, x.condition(kind, 0, 0), kind + 1);
        }
    }

    private static void testOfNodes() {
        Due.words("Promise 15: .. what it is to be made of: nodes");
        GraphCheck x = new GraphCheck();
        int[] nodes = Due.oneOfEach(x);
        for (int kind : new int[] {LESS, MORE, STARTS, GLOB, HAS}) {
            dueWrong(x, kind, NONE, 0);
            for (int node : Due.noNodes(x)) {
                dueWrong(x, kind, node, 0);
            }
            Due.yes("of the least node: kind " + kind, x.condition(kind, nodes[0], 0) >= 0);
            Due.yes("of the greatest node: kind " + kind, x.condition(kind, nodes[5], 0) >= 0);
        }
        for (int node : nodes) {
            Due.yes("any node will do for LESS", x.condition(LESS, node, 0) >= 0);
            Due.yes("any node will do for GLOB", x.condition(GLOB, node, 0) >= 0);
            Due.yes("any node will do for HAS", x.condition(HAS, node, 0) >= 0);
        }
    }

    private static void testOfTwoNodes() {
        Due.words("Promise 15: .. NEAR: two nodes");
        GraphCheck x = new GraphCheck();
        x.number(0L);
        x.number(1L);
        dueWrong(x, NEAR, NONE, 0);
        dueWrong(x, NEAR, 0, NONE);
        for (int node : Due.noNodes(x)) {
            dueWrong(x, NEAR, node, 0);
            dueWrong(x, NEAR, 0, node);
        }
        Due.is("of the least and the greatest node", x.condition(NEAR, 0, 1), 0);
        Due.is("of the greatest and the least node", x.condition(NEAR, 1, 0), 1);
    }

    private static void testEqualOfNone() {
        Due.words("Promise 15: .. nodes (0 also NONE)");
        GraphCheck x = new GraphCheck();
        Due.is("NONE", x.condition(EQUAL, NONE, 0), 0);
        dueWrong(x, EQUAL, 0, 0);
        x.number(0L);
        Due.is("a node", x.condition(EQUAL, 0, 0), 1);
        for (int node : Due.noNodes(x)) {
            dueWrong(x, EQUAL, node, 0);
        }
    }

    private static void testOfConditions() {
        Due.words("Promise 15: .. conditions");
        GraphCheck x = new GraphCheck();
        x.condition(SIZE, 0, 0);
        x.condition(SIZE, 1, 0);
        for (int none : Due.noConditions(x)) {
            dueWrong(x, NOT, none, 0);
            dueWrong(x, EACH, none, 0);
            dueWrong(x, SOME, none, 0);
            dueWrong(x, ALL, none, 0);
            dueWrong(x, ALL, 0, none);
            dueWrong(x, ANY, none, 0);
            dueWrong(x, ANY, 0, none);
            dueWrong(x, FIELD, 0, none);
        }
        Due.is("of the greatest and the least one", x.condition(ALL, 1, 0), 2);
        Due.is("of the least and the greatest one", x.condition(ANY, 0, 2), 3);
        Due.is("twice of one", x.condition(FIELD, 0, 3), 4);
    }

    private static void testMadeBefore() {
        Due.words("CONDITIONS are made of nodes .. and conditions that were made before");
        GraphCheck x = new GraphCheck();
        dueWrong(x, NOT, 0, 0);
        x.condition(SIZE, 0, 0);
        dueWrong(x, NOT, 1, 0);
        dueWrong(x, ALL, 0, 1);
        dueWrong(x, LESS, 0, 0);
        Due.is("the next one", x.condition(NOT, 0, 0), 1);
        x.number(0L);
        Due.is("a node made since then", x.condition(LESS, 0, 0), 2);
    }

    private static void testOfSize() {
        Due.words("Promise 15: .. a size of 0 or more");
        GraphCheck x = new GraphCheck();
        dueWrong(x, SIZE, -1, 0);
        dueWrong(x, SIZE, Integer.MIN_VALUE, 0);
        Due.is("0", x.condition(SIZE, 0, 0), 0);
        Due.is("the greatest int", x.condition(SIZE, Integer.MAX_VALUE, 0), 1);
        Due.no("nothing has so many", x.holds(1, x.text(0L)));
    }

    private static void testOfKind() {
        Due.words("Promise 15: .. a KIND");
        GraphCheck x = new GraphCheck();
        for (int kind : Due.outside(-2, 6)) {
            dueWrong(x, KIND, kind, 0);
        }
        for (int kind = NONE; kind <= 5; kind++) {
            Due.is("kind " + kind, x.condition(KIND, kind, 0), kind + 1);
        }
    }

    private static void testOfName() {
        Due.words("Promise 15: .. a name");
        GraphCheck x = new GraphCheck();
        x.condition(SIZE, 0, 0);
        for (int name : Due.outside(-1, 20)) {
            dueWrong(x, FIELD, name, 0);
        }
        Due.is("name 0", x.condition(FIELD, 0, 0), 1);
        Due.is("name 19", x.condition(FIELD, 19, 0), 2);
    }

    private static void testNotLookedAt() {
        Due.words("Promise 15: (b is looked at only if it is told there)");
        GraphCheck x = new GraphCheck();
        x.group(3, 0);
        x.condition(SIZE, 0, 0);
        int[] kinds = {EQUAL, LESS, MORE, STARTS, GLOB, SIZE, KIND, NOT, EACH, SOME, HAS};
        int made = 1;
        for (int kind : kinds) {
            for (int b : new int[] {-2, 64, Integer.MAX_VALUE, Integer.MIN_VALUE}) {
                Due.is("kind " + kind + ", b " + b, x.condition(kind, 0, b), made);
                made++;
            }
        }
    }

    private static void testRoom() {
        Due.words("Promise 15: IllegalStateException if there are 64");
        GraphCheck x = new GraphCheck();
        x.number(0L);
        for (int k = 0; k < 63; k++) {
            x.condition(SIZE, 0, 0);
        }
        Due.is("with 63", x.condition(EQUAL, 0, 0), 63);
        for (int kind = 0; kind <= 14; kind++) {
            int of = kind;
            Due.throwsNoState("kind " + kind + " with 64", () -> x.condition(of, 0, 0));
        }
        Due.is("conditions", x.count(1), 64);
        Due.yes("condition 63 is as it was", x.holds(63, 0));
    }

    private static void testFirstException() {
        Due.words("Promise 15: of several exceptions the one told first is thrown");
        GraphCheck x = new GraphCheck();
        for (int k = 0; k < 64; k++) {
            x.condition(SIZE, 0, 0);
        }
        dueWrong(x, 15, 0, 0);
        dueWrong(x, EQUAL, 0, 0);
        dueWrong(x, SIZE, -1, 0);
        dueWrong(x, NOT, 64, 0);
        dueWrong(x, FIELD, 20, 0);
    }

    private static void testRefusedIsNotMade() {
        Due.words("Promise 15: what throws changes nothing");
        GraphCheck x = new GraphCheck();
        x.condition(KIND, NONE, 0);
        dueWrong(x, KIND, 6, 0);
        dueWrong(x, 15, 0, 0);
        Due.is("conditions", x.count(1), 1);
        Due.throwsNoNode("condition 1", () -> x.holds(1, NONE));
        Due.is("the next one", x.condition(KIND, 0, 0), 1);
        Due.yes("condition 0 is as it was", x.holds(0, NONE));
    }

    /** Asks a condition that is made anew. */
    private static boolean holds(GraphCheck x, int kind, int a, int b, int node) {
        return x.holds(x.condition(kind, a, b), node);
    }

    private static void testEqual() {
        Due.words("0 EQUAL a: it is same as node a (perhaps NONE)");
        GraphCheck x = new GraphCheck();
        int[] some = Due.oneOfEach(x);
        int[] others = Due.oneOfEach(x);
        for (int kind = 0; kind < 6; kind++) {
            int c = x.condition(EQUAL, some[kind], 0);
            for (int other = 0; other < 6; other++) {
                Due.is("kind " + other + " for kind " + kind, x.holds(c, others[other]) ? 1 : 0, kind == other ? 1 : 0);
            }
            Due.no("NONE for kind " + kind, x.holds(c, NONE));
        }
        int none = x.condition(EQUAL, NONE, 0);
        Due.yes("NONE for NONE", x.holds(none, NONE));
        for (int node : some) {
            Due.no("kind " + node + " for NONE", x.holds(none, node));
        }
        x.put(some[3], 0, NONE);
        Due.no("a list that has changed", x.holds(3, others[3]));
        x.put(others[3], 0, NONE);
        Due.yes("another one that has changed as well", x.holds(3, others[3]));
    }

    private static void testLessAndMore() {
        testLessOfOthers();
        testLessOfNumbers();
        testLessOfDoubles();
    }

    private static void testLessOfOthers() {
        Due.words("1 LESS a, 2 MORE a: it and a are numbers or reals");
        GraphCheck x = new GraphCheck();
        int[] nodes = Due.oneOfEach(x);
        int least = x.number(Long.MIN_VALUE);
        int greatest = x.number(Long.MAX_VALUE);
        for (int node : nodes) {
            boolean isNumeric = node < 2;
            Due.is("MIN is less than kind " + node, holds(x, LESS, node, 0, least) ? 1 : 0, isNumeric ? 1 : 0);
            Due.is("MAX is more than kind " + node, holds(x, MORE, node, 0, greatest) ? 1 : 0, isNumeric ? 1 : 0);
            Due.is("kind " + node + " is more than MIN", holds(x, MORE, least, 0, node) ? 1 : 0, isNumeric ? 1 : 0);
            Due.is("kind " + node + " is less than MAX", holds(x, LESS, greatest, 0, node) ? 1 : 0, isNumeric ? 1 : 0);
        }
        Due.no("NONE is not less", holds(x, LESS, greatest, 0, NONE));
        Due.no("NONE is not more", holds(x, MORE, least, 0, NONE));
    }

    private static void testLessOfNumbers() {
        Due.words("1 LESS a, 2 MORE a: (numbers as such ..)");
        GraphCheck x = new GraphCheck();
        dueCompared(x, x.number(Long.MAX_VALUE - 1), x.number(Long.MAX_VALUE), -1);
        dueCompared(x, x.number(Long.MIN_VALUE), x.number(Long.MAX_VALUE), -1);
        dueCompared(x, x.number(-1L), x.number(0L), -1);
        dueCompared(x, x.number(9007199254740993L), x.number(9007199254740992L), 1);
        dueCompared(x, x.number(5L), x.number(5L), 0);
    }

    private static void testLessOfDoubles() {
        Due.words("1 LESS a, 2 MORE a: (.. else both as doubles)");
        GraphCheck x = new GraphCheck();
        dueCompared(x, x.number(9007199254740993L), x.real(9007199254740992.0), 0);
        dueCompared(x, x.real(9007199254740992.0), x.number(9007199254740993L), 0);
        dueCompared(x, x.number(9007199254740995L), x.real(9007199254740992.0), 1);
        dueCompared(x, x.real(0.0), x.real(-0.0), 0);
        dueCompared(x, x.real(-0.0), x.number(0L), 0);
        dueCompared(x, x.real(-0.125), x.real(0.0), -1);
        dueCompared(x, x.real(0.125), x.number(0L), 1);
        dueCompared(x, x.number(Long.MIN_VALUE), x.real(-1152921504606846848.0), -1);
    }

    private static void dueCompared(GraphCheck x, int it, int a, int sign) {
        String what = Due.shown(x, it) + " and " + Due.shown(x, a);
        Due.is("less: " + what, holds(x, LESS, a, 0, it) ? 1 : 0, sign < 0 ? 1 : 0);
        Due.is("more: " + what, holds(x, MORE, a, 0, it) ? 1 : 0, sign > 0 ? 1 : 0);
    }

    private static void testNear() {
        testNearOfOthers();
        testNearAtMost();
        testNearAsDoubles();
    }

    private static void testNearOfOthers() {
        Due.words("3 NEAR a b: it, a, b are numbers or reals");
        GraphCheck x = new GraphCheck();
        int[] nodes = Due.oneOfEach(x);
        for (int node : nodes) {
            int want = node < 2 ? 1 : 0;
            Due.is("it is of kind " + node, holds(x, NEAR, 0, 1, node) ? 1 : 0, want);
            Due.is("a is of kind " + node, holds(x, NEAR, node, 0, 1) ? 1 : 0, want);
            Due.is("b is of kind " + node, holds(x, NEAR, 1, node, 0) ? 1 : 0, want);
        }
        Due.no("it is NONE", holds(x, NEAR, 0, 0, NONE));
    }

    private static void testNearAtMost() {
        Due.words("3 NEAR a b: .. the distance from a .. is at most b");
        GraphCheck x = new GraphCheck();
        int ten = x.number(10L);
        int half = x.real(0.5);
        Due.yes("nearer than b above", holds(x, NEAR, ten, half, x.real(10.375)));
        Due.yes("nearer than b below", holds(x, NEAR, ten, half, x.real(9.625)));
        Due.yes("just b above", holds(x, NEAR, ten, half, x.real(10.5)));
        Due.yes("just b below", holds(x, NEAR, ten, half, x.real(9.5)));
        Due.no("an eighth more above", holds(x, NEAR, ten, half, x.real(10.625)));
        Due.no("an eighth more below", holds(x, NEAR, ten, half, x.real(9.375)));
        int zero = x.number(0L);
        Due.yes("a distance of 0", holds(x, NEAR, ten, zero, x.real(10.0)));
        Due.no("an eighth off", holds(x, NEAR, ten, zero, x.real(10.125)));
        Due.yes("at most -0.0", holds(x, NEAR, ten, x.real(-0.0), ten));
        Due.no("at most an eighth below 0", holds(x, NEAR, ten, x.real(-0.125), ten));
        Due.no("at most MIN", holds(x, NEAR, ten, x.number(Long.MIN_VALUE), ten));
    }

    private static void testNearAsDoubles() {
        Due.words("3 NEAR a b: .. as doubles");
        GraphCheck x = new GraphCheck();
        int zero = x.number(0L);
        int max = x.number(Long.MAX_VALUE);
        int min = x.number(Long.MIN_VALUE);
        Due.yes("MAX and MAX - 1 are one double", holds(x, NEAR, max, zero, x.number(Long.MAX_VALUE - 1)));
        Due.no("MIN and MAX: no wrap-around", holds(x, NEAR, max, zero, min));
        Due.no("MIN and MAX are further off than MAX", holds(x, NEAR, min, max, max));
        Due.yes("0 and MIN are as far off as MAX, as doubles", holds(x, NEAR, zero, max, min));
    }

    private static void testStarts() {
        testStartsOfOthers();
        testStartsWithAll();
    }

    private static void testStartsOfOthers() {
        Due.words("4 STARTS a, 5 GLOB a: both texts");
        GraphCheck x = new GraphCheck();
        int[] nodes = Due.oneOfEach(x);
        int any = x.text('*');
        for (int node : nodes) {
            int want = node == 2 ? 1 : 0;
            Due.is("it is of kind " + node + ", STARTS", holds(x, STARTS, 2, 0, node) ? 1 : 0, want);
            Due.is("it is of kind " + node + ", GLOB", holds(x, GLOB, any, 0, node) ? 1 : 0, want);
            Due.is("a is of kind " + node + ", STARTS", holds(x, STARTS, node, 0, 2) ? 1 : 0, want);
            Due.is("a is of kind " + node + ", GLOB", holds(x, GLOB, node, 0, 2) ? 1 : 0, want);
            Due.is("both are of kind " + node + ", STARTS", holds(x, STARTS, node, 0, node) ? 1 : 0, want);
            Due.is("both are of kind " + node + ", GLOB", holds(x, GLOB, node, 0, node) ? 1 : 0, want);
        }
        Due.no("it is NONE, STARTS", holds(x, STARTS, 2, 0, NONE));
        Due.no("it is NONE, GLOB", holds(x, GLOB, any, 0, NONE));
    }

    private static void testStartsWithAll() {
        Due.words("4 STARTS a: .. it begins with all characters of a");
        dueText(STARTS, "", "", true);
        dueText(STARTS, "", "a", true);
        dueText(STARTS, "a", "", false);
        dueText(STARTS, "ab", "ab", true);
        dueText(STARTS, "ab", "abc", true);
        dueText(STARTS, "abc", "ab", false);
        dueText(STARTS, "ac", "abc", false);
        dueText(STARTS, "bc", "abc", false);
        dueText(STARTS, "*", "abc", false);
        dueText(STARTS, "x".repeat(40), "x".repeat(40), true);
        dueText(STARTS, "x".repeat(40), "x".repeat(39), false);
        dueText(STARTS, "x".repeat(39) + "y", "x".repeat(40), false);
    }

    private static void dueText(int kind, String a, String text, boolean want) {
        GraphCheck x = new GraphCheck();
        int c = x.condition(kind, Due.text(x, a), 0);
        Due.is("'" + text + "' by '" + a + "'", x.holds(c, Due.text(x, text)) ? 1 : 0, want ? 1 : 0);
    }

    private static void testGlob() {
        testGlobAnyCharacter();
        testGlobAnyRow();
        testGlobItself();
        testGlobOf40();
    }

    private static void testGlobAnyCharacter() {
        Due.words("5 GLOB a: .. in which ? is any character");
        dueText(GLOB, "?", "", false);
        dueText(GLOB, "?", "a", true);
        dueText(GLOB, "?", "\u0001", true);
        dueText(GLOB, "?", "\u00ff", true);
        dueText(GLOB, "?", "\n", true);
        dueText(GLOB, "?", "?", true);
        dueText(GLOB, "?", "ab", false);
        dueText(GLOB, "a?c", "abc", true);
        dueText(GLOB, "a?c", "ac", false);
    }

    private static void testGlobAnyRow() {
        Due.words("5 GLOB a: .. * any row of them, also none");
        dueText(GLOB, "*", "", true);
        dueText(GLOB, "*", "a", true);
        dueText(GLOB, "*", "*?\n\u0001\u00ff", true);
        dueText(GLOB, "**", "", true);
        dueText(GLOB, "a*", "a", true);
        dueText(GLOB, "*a", "a", true);
        dueText(GLOB, "a*b", "ab", true);
        dueText(GLOB, "a*b", "axxb", true);
        dueText(GLOB, "a*b", "axbx", false);
        dueText(GLOB, "a*b", "xab", false);
        dueText(GLOB, "*ab", "aab", true);
        dueText(GLOB, "*ab*", "aaba", true);
        dueText(GLOB, "*ab*ab*", "ab", false);
        dueText(GLOB, "*?", "", false);
        dueText(GLOB, "?*?", "a", false);
        dueText(GLOB, "?*?", "ab", true);
    }

    private static void testGlobItself() {
        Due.words("5 GLOB a: .. another one itself");
        dueText(GLOB, "", "", true);
        dueText(GLOB, "", "a", false);
        dueText(GLOB, "a", "", false);
        dueText(GLOB, "a", "a", true);
        dueText(GLOB, "a", "b", false);
        dueText(GLOB, "a", "A", false);
        dueText(GLOB, "ab", "a", false);
        dueText(GLOB, "a", "ab", false);
        dueText(GLOB, "[a].\\?", "[a].\\x", true);
        dueText(GLOB, "[a]", "a", false);
        dueText(GLOB, "\\*", "\\abc", true);
        dueText(GLOB, "\\*", "*", false);
        dueText(GLOB, "\u007f", "\u00ff", false);
        dueText(GLOB, "a", "*", false);
        dueText(GLOB, "a", "?", false);
    }

    private static void testGlobOf40() {
        Due.words("5 GLOB a: of 40 characters");
        String x = "x".repeat(40);
        dueText(GLOB, x, x, true);
        dueText(GLOB, "?".repeat(40), x, true);
        dueText(GLOB, "*".repeat(40), x, true);
        dueText(GLOB, "*".repeat(40), "", true);
        dueText(GLOB, "?".repeat(40), "x".repeat(39), false);
        dueText(GLOB, "?".repeat(39), x, false);
        dueText(GLOB, "?".repeat(39) + "*", x, true);
        dueText(GLOB, "*" + "x".repeat(39), x, true);
        dueText(GLOB, "*y", x, false);
        dueText(GLOB, "*y", "x".repeat(39) + "y", true);
        dueText(GLOB, "*x".repeat(20), x, true);
        dueText(GLOB, "*x".repeat(19) + "*y", x, false);
    }

    private static void testSize() {
        testSizeOfFew();
        testSizeOfFull();
        testSizeOfOthers();
        testSizeOfFields();
    }

    private static void testSizeOfFew() {
        Due.words("6 SIZE a: it has so many members, fields or characters");
        GraphCheck x = new GraphCheck();
        int zero = x.condition(SIZE, 0, 0);
        int one = x.condition(SIZE, 1, 0);
        int two = x.condition(SIZE, 2, 0);
        int[] none = {x.text(0L), x.group(3, 0), x.group(4, 0), x.group(5, 0)};
        int[] some = {x.text('a'), Due.list(x, NONE), Due.bag(x, NONE), Due.record(x, 9, 19, NONE)};
        for (int k = 0; k < 4; k++) {
            Due.yes("0 of kind " + (k + 2), x.holds(zero, none[k]));
            Due.no("0 is not 1, kind " + (k + 2), x.holds(one, none[k]));
            Due.yes("1 of kind " + (k + 2), x.holds(one, some[k]));
            Due.no("1 is not 0, kind " + (k + 2), x.holds(zero, some[k]));
            Due.no("1 is not 2, kind " + (k + 2), x.holds(two, some[k]));
        }
    }

    private static void testSizeOfFull() {
        Due.words("6 SIZE a: of full texts, lists, bags and records");
        GraphCheck x = new GraphCheck();
        int text = Due.text(x, "x".repeat(40));
        Due.yes("a text", holds(x, SIZE, 40, 0, text));
        int[] most = {NONE, NONE, NONE, NONE, NONE, NONE, NONE, NONE, NONE, NONE, NONE, NONE};
        Due.yes("a list", holds(x, SIZE, 12, 0, Due.list(x, most)));
        Due.yes("a bag", holds(x, SIZE, 12, 0, Due.bag(x, most)));
        int record = x.group(5, 0);
        for (int name = 0; name < 20; name++) {
            x.put(record, name, NONE);
        }
        Due.yes("a record", holds(x, SIZE, 20, 0, record));
        x.append(text, 'x');
        Due.no("no 41st character", holds(x, SIZE, 41, 0, text));
    }

    private static void testSizeOfOthers() {
        Due.words("6 SIZE a: numbers, reals and NONE have none of these to count");
        GraphCheck x = new GraphCheck();
        int one = x.number(1L);
        int real = x.real(1.0);
        for (int size = 0; size <= 1; size++) {
            int c = x.condition(SIZE, size, 0);
            Due.no("a number", x.holds(c, one));
            Due.no("a real", x.holds(c, real));
            Due.no("NONE", x.holds(c, NONE));
        }
    }

    private static void testSizeOfFields() {
        Due.words("6 SIZE a: .. fields: each name once");
        GraphCheck x = new GraphCheck();
        int record = Due.record(x, 0, 3, NONE, 3, NONE, 4, NONE);
        Due.yes("two fields", holds(x, SIZE, 2, 0, record));
        x.ignore(3, true);
        Due.yes("one that is ignored is a field", holds(x, SIZE, 2, 0, record));
    }

    private static void testKind() {
        Due.words("7 KIND a: 0 number, 1 real, 2 text, 3 list, 4 bag, 5 record, -1 NONE");
        GraphCheck x = new GraphCheck();
        int[] nodes = Due.oneOfEach(x);
        for (int kind = NONE; kind <= 5; kind++) {
            int c = x.condition(KIND, kind, 0);
            Due.is("NONE is of kind " + kind, x.holds(c, NONE) ? 1 : 0, kind == NONE ? 1 : 0);
            for (int node : nodes) {
                Due.is("kind " + node + " is of kind " + kind, x.holds(c, node) ? 1 : 0, kind == node ? 1 : 0);
            }
        }
    }

    private static void testNot() {
        Due.words("8 NOT a");
        GraphCheck x = new GraphCheck();
        int one = x.number(1L);
        int isNone = x.condition(KIND, NONE, 0);
        int not = x.condition(NOT, isNone, 0);
        Due.yes("a number is not NONE", x.holds(not, one));
        Due.no("NONE is", x.holds(not, NONE));
        Due.no("not not", holds(x, NOT, not, 0, one));
        Due.yes("not not, NONE", holds(x, NOT, not, 0, NONE));
        Due.yes("a number is not each of anything", holds(x, NOT, x.condition(EACH, isNone, 0), 0, one));
    }

    private static void testAllAndAny() {
        Due.words("9 ALL a b, 10 ANY a b: both, one of conditions a and b at least");
        for (int a = 0; a < 2; a++) {
            for (int b = 0; b < 2; b++) {
                Due.is("ALL " + a + " " + b, ofTwo(ALL, a, b) ? 1 : 0, a & b);
                Due.is("ANY " + a + " " + b, ofTwo(ANY, a, b) ? 1 : 0, a | b);
            }
        }
    }

    /** Whether a new text holds by ALL or ANY of two conditions, of which 0 does not hold and 1 does. */
    private static boolean ofTwo(int kind, int a, int b) {
        GraphCheck x = new GraphCheck();
        int text = x.text('a');
        x.condition(KIND, 0, 0);
        x.condition(KIND, 2, 0);
        return holds(x, kind, a, b, text);
    }

    private static void testEachAndSome() {
        testEachOfNoMembers();
        testEachOfOthers();
        testEachMember();
    }

    private static void testEachOfNoMembers() {
        Due.words("11 EACH a, 12 SOME a: of no members");
        GraphCheck x = new GraphCheck();
        int yes = x.condition(SIZE, 0, 0);
        int no = x.condition(KIND, NONE, 0);
        for (int kind = 3; kind <= 4; kind++) {
            int group = x.group(kind, 0);
            Due.yes("each, kind " + kind, holds(x, EACH, yes, 0, group));
            Due.yes("each of what none holds by, kind " + kind, holds(x, EACH, no, 0, group));
            Due.no("some, kind " + kind, holds(x, SOME, yes, 0, group));
        }
    }

    private static void testEachOfOthers() {
        Due.words("11 EACH a, 12 SOME a: it is a list or bag");
        GraphCheck x = new GraphCheck();
        int[] nodes = Due.oneOfEach(x);
        x.put(nodes[5], 0, NONE);
        int isNone = x.condition(KIND, NONE, 0);
        int each = x.condition(EACH, isNone, 0);
        int some = x.condition(SOME, isNone, 0);
        for (int node : nodes) {
            x.put(node, 0, NONE);
            Due.is("each, kind " + node, x.holds(each, node) ? 1 : 0, node == 3 || node == 4 ? 1 : 0);
            Due.is("some, kind " + node, x.holds(some, node) ? 1 : 0, node == 3 || node == 4 ? 1 : 0);
        }
        Due.no("each, NONE", x.holds(each, NONE));
        Due.no("some, NONE", x.holds(some, NONE));
    }

    private static void testEachMember() {
        Due.words("11 EACH a, 12 SOME a: each member, one at least, holds by a");
        GraphCheck x = new GraphCheck();
        int one = x.number(1L);
        int isNone = x.condition(KIND, NONE, 0);
        int each = x.condition(EACH, isNone, 0);
        int some = x.condition(SOME, isNone, 0);
        for (int place = 0; place < 12; place += 11) {
            int list = x.group(3, 0);
            int bag = x.group(4, 0);
            for (int k = 0; k < 12; k++) {
                x.put(list, 0, k == place ? one : NONE);
                x.put(bag, 0, k == place ? NONE : one);
            }
            Due.no("all but member " + place, x.holds(each, list));
            Due.yes("some of eleven", x.holds(some, list));
            Due.no("each of one", x.holds(each, bag));
            Due.yes("member " + place + " alone", x.holds(some, bag));
            Due.yes("each of the list is NONE or not", holds(x, EACH, x.condition(ANY, isNone,
                    x.condition(NOT, isNone, 0)), 0, list));
        }
        Due.no("none of two", x.holds(some, Due.list(x, one, one)));
    }

    private static void testField() {
        testFieldOfOthers();
        testFieldOfName();
        testFieldHolds();
    }

    private static void testFieldOfOthers() {
        Due.words("13 FIELD a b: it is a record");
        GraphCheck x = new GraphCheck();
        int isNone = x.condition(KIND, NONE, 0);
        int field = x.condition(FIELD, 0, isNone);
        for (int node : Due.oneOfEach(x)) {
            x.put(node, 0, NONE);
            Due.is("kind " + node, x.holds(field, node) ? 1 : 0, node == 5 ? 1 : 0);
        }
        Due.no("NONE", x.holds(field, NONE));
    }

    private static void testFieldOfName() {
        Due.words("13 FIELD a b: .. with a field of name a");
        GraphCheck x = new GraphCheck();
        int isNone = x.condition(KIND, NONE, 0);
        int any = x.condition(ANY, isNone, x.condition(NOT, isNone, 0));
        for (int name = 0; name < 20; name += 19) {
            int beside = name == 0 ? 1 : 18;
            Due.yes("name " + name, holds(x, FIELD, name, any, Due.record(x, 0, name, NONE)));
            Due.no("another name", holds(x, FIELD, name, any, Due.record(x, 0, beside, NONE)));
            Due.no("no fields", holds(x, FIELD, name, any, x.group(5, 0)));
        }
        x.ignore(0, true);
        Due.yes("a name that is ignored", holds(x, FIELD, 0, any, Due.record(x, 0, 0, NONE)));
    }

    private static void testFieldHolds() {
        Due.words("13 FIELD a b: .. which holds by b");
        GraphCheck x = new GraphCheck();
        int one = x.number(1L);
        int isNone = x.condition(KIND, NONE, 0);
        int field = x.condition(FIELD, 7, isNone);
        int record = Due.record(x, 0, 6, NONE, 7, one, 8, NONE);
        Due.no("it does not", x.holds(field, record));
        x.put(record, 7, NONE);
        Due.yes("it does now", x.holds(field, record));
        int ring = x.group(5, 0);
        x.put(ring, 7, ring);
        Due.yes("it is the record itself", holds(x, FIELD, 7, x.condition(KIND, 5, 0), ring));
    }

    private static void testHas() {
        testHasOfOthers();
        testHasAll();
        testHasDifferentMembers();
        testHasSame();
    }

    private static void testHasOfOthers() {
        Due.words("14 HAS a: it and node a are lists or bags");
        GraphCheck x = new GraphCheck();
        int[] nodes = Due.oneOfEach(x);
        for (int node : nodes) {
            int want = node == 3 || node == 4 ? 1 : 0;
            Due.is("it is of kind " + node, holds(x, HAS, 3, 0, node) ? 1 : 0, want);
            Due.is("it is of kind " + node + ", a is a bag", holds(x, HAS, 4, 0, node) ? 1 : 0, want);
            Due.is("a is of kind " + node, holds(x, HAS, node, 0, 3) ? 1 : 0, want);
            Due.is("a is of kind " + node + ", it is a bag", holds(x, HAS, node, 0, 4) ? 1 : 0, want);
        }
        Due.no("it is NONE", holds(x, HAS, 3, 0, NONE));
    }

    private static void testHasAll() {
        Due.words("14 HAS a: .. the members of a can be put in pairs with .. members of it");
        GraphCheck x = new GraphCheck();
        int one = x.number(1L);
        int two = x.number(2L);
        int empty = x.group(3, 0);
        int full = Due.list(x, one, one, one, one, one, one, one, one, one, one, one, two);
        int turned = Due.bag(x, two, one, one, one, one, one, one, one, one, one, one, one);
        int other = Due.bag(x, two, two, one, one, one, one, one, one, one, one, one, one);
        Due.yes("none of none", holds(x, HAS, empty, 0, empty));
        Due.yes("none of twelve", holds(x, HAS, empty, 0, full));
        Due.no("one of none", holds(x, HAS, Due.list(x, one), 0, empty));
        Due.yes("twelve of twelve", holds(x, HAS, full, 0, turned));
        Due.yes("twelve of twelve, turned", holds(x, HAS, turned, 0, full));
        Due.no("twelve of twelve, one of another sort", holds(x, HAS, other, 0, full));
        Due.yes("the last one alone", holds(x, HAS, Due.bag(x, two), 0, full));
        Due.no("more than it has", holds(x, HAS, Due.list(x, one, one), 0, Due.list(x, one)));
    }

    private static void testHasDifferentMembers() {
        Due.words("14 HAS a: .. different members of it");
        GraphCheck x = new GraphCheck();
        int one = x.number(1L);
        int two = x.number(2L);
        int twice = Due.list(x, one, one);
        Due.no("once, and another one", holds(x, HAS, twice, 0, Due.list(x, one, two)));
        Due.yes("twice, another one between", holds(x, HAS, twice, 0, Due.list(x, one, two, one)));
        Due.yes("twice for once", holds(x, HAS, Due.list(x, one), 0, twice));
        Due.no("NONE twice", holds(x, HAS, Due.bag(x, NONE, NONE), 0, Due.bag(x, NONE, one)));
    }

    private static void testHasSame() {
        Due.words("14 HAS a: .. that are same");
        GraphCheck x = new GraphCheck();
        int one = x.number(1L);
        int real = x.real(1.0);
        int ring = x.group(3, 0);
        x.put(ring, 0, ring);
        int otherRing = Due.list(x, ring);
        int has = x.condition(HAS, Due.list(x, one, NONE, ring), 0);
        Due.yes("same ones of other nodes", x.holds(has, Due.bag(x, otherRing, NONE, x.number(1L))));
        Due.no("a real for a number", x.holds(has, Due.bag(x, ring, NONE, real)));
        Due.no("another list for the ring", x.holds(has, Due.bag(x, x.group(3, 0), NONE, one)));
        Due.yes("a ring has its member", holds(x, HAS, ring, 0, ring));
    }

    private static void testHoldsOfNone() {
        testNoSuchCondition();
        testNoSuchNode();
        testLastNodeAndNone();
        testManyWaysDown();
    }

    private static void testNoSuchCondition() {
        Due.words("Promise 16: whether a node, or NONE, holds by a condition: no such condition");
        GraphCheck x = new GraphCheck();
        x.number(1L);
        x.condition(KIND, NONE, 0);
        for (int condition : Due.noConditions(x)) {
            Due.throwsNoNode("holds(" + condition + ", 0)", () -> x.holds(condition, 0));
            Due.throwsNoNode("holds(" + condition + ", NONE)", () -> x.holds(condition, NONE));
        }
    }

    private static void testNoSuchNode() {
        Due.words("Promise 16: IndexOutOfBoundsException if there is no such one of these: no such node");
        GraphCheck x = new GraphCheck();
        x.number(1L);
        x.condition(KIND, NONE, 0);
        for (int node : Due.noNodes(x)) {
            Due.throwsNoNode("holds(0, " + node + ")", () -> x.holds(0, node));
            Due.throwsNoNode("holds(1, " + node + ")", () -> x.holds(1, node));
        }
        Due.yes("NONE", x.holds(0, NONE));
        Due.no("a node", x.holds(0, 0));
    }

    private static void testLastNodeAndNone() {
        Due.words("Promise 16: whether a node, or NONE, holds: node 63 and NONE are two");
        GraphCheck x = new GraphCheck();
        int list = x.group(3, 0);
        Due.fill(x, 63);
        int last = x.text('a');
        x.put(list, 0, NONE);
        x.put(list, 0, last);
        int isNumber = x.condition(KIND, 0, 0);
        int isText = x.condition(KIND, 2, 0);
        int isEither = x.condition(ANY, isNumber, isText);
        Due.no("each is a text or a number", holds(x, EACH, isEither, 0, list));
        Due.yes("some are", holds(x, SOME, isEither, 0, list));
        Due.yes("node 63 is", x.holds(isEither, last));
        Due.no("NONE is not", x.holds(isEither, NONE));
    }

    private static void testManyWaysDown() {
        Due.words("Promise 16: 63 conditions down, in a ring");
        GraphCheck x = new GraphCheck();
        int ring = x.group(3, 0);
        x.put(ring, 0, ring);
        x.put(ring, 0, ring);
        int c = x.condition(KIND, 3, 0);
        while (x.count(1) < 64) {
            c = x.condition(x.count(1) % 2 == 0 ? EACH : ALL, c, c);
        }
        Due.yes("all hold", x.holds(c, ring));
        x.put(ring, 0, NONE);
        Due.no("one does not", x.holds(c, ring));
    }
}
