/** Promise 13: shown. */
public final class ShownTest {
    private static final int NONE = GraphCheck.NONE;

    public static void main(String[] args) {
        testNone();
        testNumbers();
        testReals();
        testTexts();
        testGroups();
        testRings();
        testLimit();
        testManyGroups();
        testDeepGroups();
        testNoSuch();
        Due.end();
    }

    private static void testNone() {
        GraphCheck x = new GraphCheck();
        Due.text("NONE", Due.shown(x, NONE), "none");
        x.rules(true, false, 3);
        Due.text("NONE with limit 3", Due.shown(x, NONE), "...");
    }

    private static void testNumbers() {
        GraphCheck x = new GraphCheck();
        long[] values = {0L, 9L, 10L, -1L, -10L, 1234567890L, Long.MAX_VALUE, Long.MIN_VALUE};
        for (long v : values) {
            Due.text("number", Due.shown(x, x.number(v)), Long.toString(v));
        }
    }

    private static void testReals() {
        GraphCheck x = new GraphCheck();
        dueReal(x, 0.0, "0.000");
        dueReal(x, -0.0, "0.000");
        dueReal(x, 0.125, "0.125");
        dueReal(x, -0.125, "-0.125");
        dueReal(x, 2.25, "2.250");
        dueReal(x, -2.375, "-2.375");
        dueReal(x, 1000.5, "1000.500");
        dueReal(x, 7.625, "7.625");
        dueReal(x, 7.75, "7.750");
        dueReal(x, -7.875, "-7.875");
        dueReal(x, 1152921504606846848.0, "1152921504606846848.000");
        dueReal(x, -1152921504606846848.0, "-1152921504606846848.000");
        dueReal(x, 562949953421312.125, "562949953421312.125");
    }

    private static void dueReal(GraphCheck x, double v, String want) {
        Due.text("real " + v, Due.shown(x, x.real(v)), want);
    }

    private static void testTexts() {
        GraphCheck x = new GraphCheck();
        Due.text("text", Due.shown(x, Due.text(x, "hello, world")), "\"hello, world\"");
        Due.text("quotes and \\", Due.shown(x, Due.text(x, "a\"b\\c\\\\\"")),
                "\"a\\\"b\\\\c\\\\\\\\\\\"\"");
        Due.text("characters above 127", Due.shown(x, Due.text(x, "\u00ff\u0080")), "\"\u00ff\u0080\"");
    }

    private static void testGroups() {
        GraphCheck x = new GraphCheck();
        int one = x.number(1L);
        int list = Due.list(x, one, NONE, x.text(97L));
        int bag = Due.bag(x, list, list);
        int record = Due.record(x, 7, 12, bag, 3, one, 0, NONE);
        Due.text("list", Due.shown(x, list), "[1, none, \"a\"]");
        Due.text("bag", Due.shown(x, bag), "{[1, none, \"a\"], [1, none, \"a\"]}");
        Due.text("record", Due.shown(x, record),
                "T7(n0=none, n3=1, n12={[1, none, \"a\"], [1, none, \"a\"]})");
        Due.text("one field of a great name", Due.shown(x, Due.record(x, 0, 19, one)), "T0(n19=1)");
    }

    private static void testRings() {
        GraphCheck x = new GraphCheck();
        int a = x.group(3, 0);
        int b = x.group(4, 0);
        int c = x.group(5, 1);
        x.put(a, 0, b);
        x.put(b, 0, c);
        x.put(c, 5, a);
        x.put(c, 6, b);
        x.put(c, 7, c);
        x.put(a, 0, a);
        x.put(a, 0, b);
        Due.text("from the list", Due.shown(x, a),
                "[{T1(n5=^3, n6=^2, n7=^1)}, ^1, {T1(n5=^3, n6=^2, n7=^1)}]");
        Due.text("from the bag", Due.shown(x, b), "{T1(n5=[^3, ^1, ^3], n6=^2, n7=^1)}");
        Due.text("from the record", Due.shown(x, c),
                "T1(n5=[{^3}, ^1, {^3}], n6={^2}, n7=^1)");
        int d = Due.list(x);
        int e = Due.list(x, d, d);
        Due.text("what is beside is not around", Due.shown(x, e), "[[], []]");
    }

    private static void testLimit() {
        GraphCheck x = new GraphCheck();
        int text = x.text(Due.bytes("abcdef"));
        x.rules(true, false, 8);
        Due.text("just the limit", Due.shown(x, text), "\"abcdef\"");
        x.rules(true, false, 7);
        Due.text("one more", Due.shown(x, text), "\"abc...");
        x.rules(true, false, 3);
        Due.text("limit 3", Due.shown(x, text), "...");
        x.rules(true, false, 4);
        Due.text("limit 4", Due.shown(x, text), "\"...");
        Due.throwsNoNode("character 4 of 4", () -> x.shown(text, 4));
        int twelve = Due.list(x, x.number(12L));
        Due.text("a list of just the limit", Due.shown(x, twelve), "[12]");
        x.rules(true, false, 3);
        Due.text("a list with its end beyond the limit", Due.shown(x, twelve), "...");
        x.rules(true, false, 5);
        Due.text("two ends beyond the limit", Due.shown(x, Due.list(x, twelve)), "[[...");
        int list = Due.list(x, text, text, text, text, text, text, text, text, text, text, text, text);
        int lists = Due.list(x, list, list, list, list, list, list, list, list);
        x.rules(true, false, 1000);
        Due.is("eight lists of 120 characters", x.shown(lists, NONE), 8 * 120 + 7 * 2 + 2);
        x.put(lists, 0, Due.text(x, "12345678901234567890"));
        Due.is("just 1000", x.shown(lists, NONE), 1000);
        Due.is("character 999 of just 1000", x.shown(lists, 999), ']');
        x.put(lists, 0, Due.list(x));
        Due.is("more than 1000", x.shown(lists, NONE), 1000);
        Due.is("character 997", x.shown(lists, 997), '.');
        Due.is("character 999", x.shown(lists, 999), '.');
        Due.is("character 996", x.shown(lists, 996), '9');
        Due.throwsNoNode("character 1000 of 1000", () -> x.shown(lists, 1000));
    }

    /** A row that would be of some 12 to the 60th characters is cut in good time. */
    private static void testManyGroups() {
        GraphCheck x = new GraphCheck();
        int inner = x.group(3, 0);
        for (int k = 1; k < 64; k++) {
            int outer = x.group(3, 0);
            for (int place = 0; place < 12; place++) {
                x.put(outer, 0, place == 0 ? NONE : inner);
            }
            inner = outer;
            if (k == 30) {
                break;
            }
        }
        x.rules(true, false, 1000);
        Due.is("a row cut at 1000", x.shown(inner, NONE), 1000);
    }

    private static void testDeepGroups() {
        GraphCheck x = new GraphCheck();
        for (int k = 0; k < 64; k++) {
            x.group(3, 0);
        }
        for (int k = 0; k < 63; k++) {
            x.put(k, 0, k + 1);
        }
        Due.text("64 groups deep", Due.shown(x, 0), "[".repeat(64) + "]".repeat(64));
        x.put(63, 0, 0);
        Due.text("64 groups out", Due.shown(x, 0), "[".repeat(64) + "^64" + "]".repeat(64));
    }

    private static void testNoSuch() {
        GraphCheck x = new GraphCheck();
        int one = x.number(12L);
        Due.is("how many", x.shown(one, NONE), 2);
        Due.is("character 1", x.shown(one, 1), '2');
        int[] noLetters = {2, -2, Integer.MAX_VALUE, Integer.MIN_VALUE};
        for (int k : noLetters) {
            Due.throwsNoNode("character " + k, () -> x.shown(one, k));
        }
        int[] noNodes = {1, -2, 64, Integer.MAX_VALUE, Integer.MIN_VALUE};
        for (int node : noNodes) {
            Due.throwsNoNode("shown(" + node + ", NONE)", () -> x.shown(node, NONE));
        }
    }
}
