/**
 * The edges of rows, a test for each of the document's words that name one: SHOWN and WAYS of
 * 'Terms', and promises 13 and 14.
 */
public final class RowEdgesTest {
    private static final int NONE = GraphCheck.NONE;

    public static void main(String[] args) {
        testShownValues();
        testShownGroups();
        testShownWithin();
        testLimit();
        testShownCalls();
        testWays();
        testWayCalls();
        Due.end();
    }

    private static void testShownValues() {
        testShownNone();
        testShownNumbers();
        testShownReals();
        testShownTexts();
    }

    private static void testShownNone() {
        Due.words("SHOWN: NONE: none");
        GraphCheck x = new GraphCheck();
        Due.text("NONE", Due.shown(x, NONE), "none");
        Due.text("as a member", Due.shown(x, Due.list(x, NONE)), "[none]");
    }

    private static void testShownNumbers() {
        Due.words("SHOWN: numbers: their digits, with - ahead");
        GraphCheck x = new GraphCheck();
        long[] values = {0L, 1L, -1L, 9L, 10L, -10L, 100L, Long.MAX_VALUE, Long.MIN_VALUE, Long.MIN_VALUE + 1};
        for (long v : values) {
            Due.text("number", Due.shown(x, x.number(v)), Long.toString(v));
        }
    }

    private static void testShownReals() {
        Due.words("SHOWN: reals: the digits of the whole part, a point, three digits; - ahead below 0");
        GraphCheck x = new GraphCheck();
        String[] parts = {"000", "125", "250", "375", "500", "625", "750", "875"};
        for (int k = 0; k < 8; k++) {
            Due.text("eighth " + k, Due.shown(x, x.real(k * 0.125)), "0." + parts[k]);
        }
        Due.text("-0.0 is not below 0", Due.shown(x, x.real(-0.0)), "0.000");
        Due.text("below 0, whole part 0", Due.shown(x, x.real(-0.875)), "-0.875");
        Due.text("below 0", Due.shown(x, x.real(-1.0)), "-1.000");
        Due.text("rounded to no side", Due.shown(x, x.real(-9.875)), "-9.875");
        Due.text("a long whole part", Due.shown(x, x.real(1125899906842623.875)), "1125899906842623.875");
        Due.text("just below 2^60", Due.shown(x, x.real(1152921504606846848.0)), "1152921504606846848.000");
        Due.text("just above -2^60", Due.shown(x, x.real(-1152921504606846848.0)), "-1152921504606846848.000");
    }

    private static void testShownTexts() {
        Due.words("SHOWN: texts: in quotes (\"), a \\ ahead of each quote and \\");
        GraphCheck x = new GraphCheck();
        Due.text("no characters", Due.shown(x, x.text(0L)), "\"\"");
        Due.text("a quote", Due.shown(x, x.text('"')), "\"\\\"\"");
        Due.text("a \\", Due.shown(x, x.text('\\')), "\"\\\\\"");
        Due.text("both, others between", Due.shown(x, Due.text(x, "\\n'\"")), "\"\\\\n'\\\"\"");
        Due.text("characters 1 and 255 as such", Due.shown(x, x.text(0x01ffL)), "\"\u0001\u00ff\"");
        Due.is("40 quotes", x.shown(Due.text(x, "\"".repeat(40)), NONE), 82);
    }

    private static void testShownGroups() {
        testShownLists();
        testShownRecords();
    }

    private static void testShownLists() {
        Due.words("SHOWN: lists: [ and ], bags: { and }, in the order in which they came, comma and blank between");
        GraphCheck x = new GraphCheck();
        int two = x.number(2L);
        int one = x.number(1L);
        Due.text("an empty list", Due.shown(x, x.group(3, 0)), "[]");
        Due.text("an empty bag", Due.shown(x, x.group(4, 0)), "{}");
        Due.text("a list of one", Due.shown(x, Due.list(x, one)), "[1]");
        Due.text("a bag of one", Due.shown(x, Due.bag(x, one)), "{1}");
        Due.text("a list", Due.shown(x, Due.list(x, two, one, two)), "[2, 1, 2]");
        Due.text("a bag", Due.shown(x, Due.bag(x, two, one, two)), "{2, 1, 2}");
        Due.text("a list of twelve",
                Due.shown(x, Due.list(x, one, two, one, two, one, two, one, two, one, two, one, two)),
                "[1, 2, 1, 2, 1, 2, 1, 2, 1, 2, 1, 2]");
        Due.text("empty ones within", Due.shown(x, Due.list(x, 2, 3, 2)), "[[], {}, []]");
    }

    private static void testShownRecords() {
        Due.words("SHOWN: records: T, the digits of the type, ( and ), by rising names: n, the digits of the name, =");
        GraphCheck x = new GraphCheck();
        int one = x.number(1L);
        Due.text("no fields", Due.shown(x, x.group(5, 0)), "T0()");
        Due.text("names 0 and 19", Due.shown(x, Due.record(x, 9, 19, one, 0, NONE)), "T9(n0=none, n19=1)");
        Due.text("names 9 and 10", Due.shown(x, Due.record(x, 5, 10, one, 9, one)), "T5(n9=1, n10=1)");
        x.ignore(0, true);
        x.rules(false, false, 200);
        Due.text("a name that is ignored, a type that does not count", Due.shown(x, Due.record(x, 3, 0, one)),
                "T3(n0=1)");
    }

    private static void testShownWithin() {
        testWithinItself();
        testHowManyFurtherOut();
        testOnlyWithinItself();
        testFarthestOut();
    }

    private static void testWithinItself() {
        Due.words("SHOWN: a group that is within itself there: ^ and .. (1: the innermost one around)");
        GraphCheck x = new GraphCheck();
        for (int kind = 3; kind <= 5; kind++) {
            x.put(x.group(kind, 0), 0, kind - 3);
        }
        Due.text("a list", Due.shown(x, 0), "[^1]");
        Due.text("a bag", Due.shown(x, 1), "{^1}");
        Due.text("a record", Due.shown(x, 2), "T0(n0=^1)");
        Due.text("around is what is there, not what is same", Due.shown(x, Due.list(x, 0)), "[[^1]]");
    }

    private static void testHowManyFurtherOut() {
        Due.words("SHOWN: .. how many groups further out it is");
        GraphCheck x = new GraphCheck();
        int list = x.group(3, 0);
        int bag = Due.bag(x, list);
        int record = Due.record(x, 2, 7, bag);
        x.put(list, 0, record);
        x.put(record, 8, record);
        x.put(record, 9, list);
        Due.text("from the list", Due.shown(x, list), "[T2(n7={^3}, n8=^1, n9=^2)]");
        Due.text("from the bag", Due.shown(x, bag), "{[T2(n7=^3, n8=^1, n9=^2)]}");
        Due.text("from the record", Due.shown(x, record), "T2(n7={[^3]}, n8=^1, n9=[^2])");
    }

    private static void testOnlyWithinItself() {
        Due.words("SHOWN: .. that is within itself there: not one that has come and ended");
        GraphCheck x = new GraphCheck();
        int empty = x.group(3, 0);
        int holder = Due.list(x, empty, empty);
        Due.text("beside itself", Due.shown(x, Due.bag(x, holder, empty, holder)), "{[[], []], [], [[], []]}");
        int number = x.number(3L);
        Due.text("a number is no group", Due.shown(x, Due.list(x, Due.list(x, number), number)), "[[3], 3]");
    }

    private static void testFarthestOut() {
        Due.words("SHOWN: .. 64 groups further out");
        GraphCheck x = new GraphCheck();
        for (int k = 0; k < 64; k++) {
            x.group(3, 0);
        }
        for (int k = 0; k < 64; k++) {
            x.put(k, 0, (k + 1) % 64);
        }
        Due.text("a ring of 64 lists", Due.shown(x, 5), "[".repeat(64) + "^64" + "]".repeat(64));
    }

    private static void testLimit() {
        testLimitOfEach();
        testLimitThree();
        testLimitThousand();
        testLimitCutsAnywhere();
        testLimitOfEndlessRows();
    }

    private static void testLimitOfEach() {
        Due.words("SHOWN: if that would be more than LIMIT characters, its first LIMIT - 3 and three points");
        GraphCheck x = new GraphCheck();
        int one = x.number(1L);
        int list = Due.list(x, one, Due.list(x, one), one);
        int[] nodes = {
            x.number(-123456L), x.real(-123.125), x.text(Due.bytes("abcdef")), list, Due.bag(x, one, one, one),
            Due.record(x, 1, 0, one), NONE
        };
        for (int node : nodes) {
            x.rules(true, false, 1000);
            String whole = Due.shown(x, node);
            x.rules(true, false, whole.length());
            Due.text("just LIMIT", Due.shown(x, node), whole);
            x.rules(true, false, whole.length() - 1);
            Due.text("one more", Due.shown(x, node), whole.substring(0, whole.length() - 4) + "...");
        }
    }

    private static void testLimitThree() {
        Due.words("SHOWN: LIMIT 3");
        GraphCheck x = new GraphCheck();
        x.rules(true, false, 3);
        Due.text("three", Due.shown(x, x.number(123L)), "123");
        Due.text("four", Due.shown(x, x.number(1234L)), "...");
        Due.text("NONE", Due.shown(x, NONE), "...");
        Due.text("two", Due.shown(x, x.text(0L)), "\"\"");
        Due.text("a record without fields", Due.shown(x, x.group(5, 0)), "...");
        Due.text("a list of a list", Due.shown(x, Due.list(x, x.group(3, 0))), "...");
    }

    private static void testLimitThousand() {
        Due.words("SHOWN: LIMIT 1000");
        GraphCheck x = new GraphCheck();
        x.rules(true, false, 1000);
        int just = lettersShown(x, 1000);
        Due.is("1000 characters", x.shown(just, NONE), 1000);
        Due.is("character 999", x.shown(just, 999), ']');
        Due.is("character 997", x.shown(just, 997), '"');
        Due.throwsNoNode("character 1000", () -> x.shown(just, 1000));
        int more = lettersShown(x, 1001);
        Due.is("1001 characters", x.shown(more, NONE), 1000);
        for (int k = 997; k < 1000; k++) {
            Due.is("character " + k, x.shown(more, k), '.');
        }
        Due.is("character 996", x.shown(more, 996), 'y');
        Due.throwsNoNode("character 1000", () -> x.shown(more, 1000));
    }

    /** A list that would be shown as so many characters (from 970 on): two of 400 each, and the rest. */
    private static int lettersShown(GraphCheck x, int size) {
        int text = Due.text(x, "x".repeat(36));
        int long400 = Due.list(x, text, text, text, text, text, text, text, text, text, text);
        int last = Due.text(x, "y".repeat(size - 970));
        return Due.list(x, long400, long400, Due.list(x, text, text, text, text, last));
    }

    private static void testLimitCutsAnywhere() {
        Due.words("SHOWN: .. its first LIMIT - 3, whatever they are");
        GraphCheck x = new GraphCheck();
        int list = Due.list(x, Due.text(x, "\"\"\"\"\"\""), x.number(10L));
        x.rules(true, false, 6);
        Due.text("between a \\ and its quote", Due.shown(x, list), "[\"\\...");
        int record = Due.record(x, 4, 12, list);
        x.rules(true, false, 7);
        Due.text("within a name", Due.shown(x, record), "T4(n...");
    }

    private static void testLimitOfEndlessRows() {
        Due.words("SHOWN: a row that would be far longer than LIMIT");
        GraphCheck x = new GraphCheck();
        int inner = x.number(7L);
        for (int k = 0; k < 20; k++) {
            inner = Due.list(x, inner, inner, inner, inner, inner, inner, inner, inner, inner, inner, inner, inner);
        }
        x.rules(true, false, 40);
        Due.text("12^20 numbers", Due.shown(x, inner), "[".repeat(20) + "7, 7, 7, 7, 7, 7," + "...");
    }

    private static void testShownCalls() {
        testShownOfNoNode();
        testNoSuchCharacter();
    }

    private static void testShownOfNoNode() {
        Due.words("Promise 13: IndexOutOfBoundsException if there is no such node ..");
        GraphCheck x = new GraphCheck();
        x.number(1L);
        for (int node : Due.noNodes(x)) {
            Due.throwsNoNode("shown(" + node + ", NONE)", () -> x.shown(node, NONE));
            Due.throwsNoNode("shown(" + node + ", 0)", () -> x.shown(node, 0));
        }
        Due.is("a node", x.shown(0, 0), '1');
        Due.is("NONE", x.shown(NONE, 0), 'n');
    }

    private static void testNoSuchCharacter() {
        Due.words("Promise 13: .. or character");
        GraphCheck x = new GraphCheck();
        int seven = x.number(7L);
        Due.is("k = NONE: how many", x.shown(seven, NONE), 1);
        Due.is("character 0", x.shown(seven, 0), '7');
        for (int k : Due.outside(-2, 1)) {
            Due.throwsNoNode("character " + k, () -> x.shown(seven, k));
        }
        x.rules(true, false, 3);
        int cut = x.number(12345L);
        Due.is("the last point", x.shown(cut, 2), '.');
        Due.throwsNoNode("what is cut off", () -> x.shown(cut, 3));
        Due.throwsNoNode("character 4 of NONE", () -> x.shown(NONE, 4));
    }

    private static void testWays() {
        testFromBeginningToEnd();
        testFewest();
        testKeepAheadOfDrop();
        testDropAheadOfAdd();
        testKeptIsSame();
        testFullRows();
    }

    /** A way from a text to another one, its steps told without blanks. */
    private static void dueWay(String from, String to, String steps) {
        GraphCheck x = new GraphCheck();
        String what = "from '" + from + "' to '" + to + "'";
        int size = x.way(Due.text(x, from), Due.text(x, to));
        Due.text("way " + what, Due.steps(x, size).replace(" ", ""), steps);
        Due.is("steps not KEEP " + what, x.step(NONE), steps.replace("0", "").length());
        Due.throwsNoNode("a step more " + what, () -> x.step(size));
    }

    private static void testFromBeginningToEnd() {
        Due.words("WAYS: .. that lead through both from the beginning to the end");
        dueWay("", "", "");
        dueWay("a", "", "1");
        dueWay("", "a", "2");
        dueWay("a", "a", "0");
        dueWay("a", "b", "12");
        dueWay("abc", "", "111");
        dueWay("", "abc", "222");
        dueWay("abc", "a", "011");
        dueWay("abc", "c", "110");
        dueWay("a", "abc", "022");
        dueWay("c", "abc", "220");
    }

    private static void testFewest() {
        Due.words("WAYS: the SHORTEST has the fewest steps that are not KEEP");
        dueWay("abc", "bca", "1002");
        dueWay("bca", "abc", "2001");
        dueWay("abab", "baba", "10002");
        dueWay("xaxbxc", "abc", "101010");
        dueWay("abc", "xaxbxc", "202020");
    }

    private static void testKeepAheadOfDrop() {
        Due.words("WAYS: of several the one that has KEEP .. at the first step where they part");
        dueWay("aa", "a", "01");
        dueWay("a", "aa", "02");
        dueWay("aba", "a", "011");
        dueWay("a", "aba", "022");
        dueWay("aab", "ab", "010");
        dueWay("ab", "aab", "020");
    }

    private static void testDropAheadOfAdd() {
        Due.words("WAYS: .. else DROP, at the first step where they part");
        dueWay("ab", "ba", "102");
        dueWay("ba", "ab", "102");
        dueWay("ab", "cd", "1122");
        dueWay("axb", "ayb", "0120");
        dueWay("abb", "bab", "1020");
        dueWay("abc", "cba", "11022");
    }

    private static void testKeptIsSame() {
        Due.words("WAYS: where what is kept is same (equal) in both");
        GraphCheck x = new GraphCheck();
        int one = x.number(1L);
        int otherOne = x.number(1L);
        int real = x.real(1.0);
        int ring = x.group(3, 0);
        x.put(ring, 0, ring);
        int from = Due.list(x, one, NONE, real, ring);
        int to = Due.list(x, otherOne, NONE, x.real(1.0), Due.list(x, ring));
        Due.is("all are same", x.way(from, to), 4);
        Due.text("all are kept", Due.steps(x, 4), "0 0 0 0");
        Due.is("a number and a real", x.way(Due.list(x, one), Due.list(x, real)), 2);
        Due.is("NONE and a number", x.way(Due.list(x, NONE), Due.list(x, one)), 2);
        int bag = Due.bag(x, one, real);
        Due.is("bags", x.way(Due.list(x, bag), Due.list(x, Due.bag(x, real, one))), 1);
        int record = Due.list(x, Due.record(x, 0, 5, one));
        int other = Due.list(x, Due.record(x, 1, 5, real));
        Due.is("records", x.way(record, other), 2);
        x.rules(false, false, 200);
        x.ignore(5, true);
        Due.is("records that are same now", x.way(record, other), 1);
        Due.is("characters 127 and 255", x.way(x.text(127L), x.text(255L)), 2);
    }

    private static void testFullRows() {
        Due.words("WAYS: of 40 characters, of 12 members");
        GraphCheck x = new GraphCheck();
        int a = Due.text(x, "ab".repeat(20));
        int b = Due.text(x, "ba".repeat(20));
        Due.is("steps from abab.. to baba..", x.way(a, b), 41);
        Due.is("step 0", x.step(0), 1);
        Due.is("step 1", x.step(1), 0);
        Due.is("step 39", x.step(39), 0);
        Due.is("step 40", x.step(40), 2);
        Due.is("not KEEP", x.step(NONE), 2);
        Due.is("80 steps", x.way(a, Due.text(x, "c".repeat(40))), 80);
        Due.is("step 79", x.step(79), 2);
        Due.is("80 not KEEP", x.step(NONE), 80);
        Due.throwsNoNode("step 80", () -> x.step(80));
        int twelve = Due.list(x, a, a, a, a, a, a, a, a, a, a, a, b);
        int others = Due.list(x, b, b, b, b, b, b, b, b, b, b, b, b);
        Due.is("steps of twelve members", x.way(twelve, others), 23);
        Due.is("step 10", x.step(10), 1);
        Due.is("step 11: KEEP, then ADD", x.step(11), 0);
        Due.is("step 22", x.step(22), 2);
    }

    private static void testWayCalls() {
        testWayOfOthers();
        testWayToItself();
    }

    private static void testWayOfOthers() {
        Due.words("Promise 14: IllegalArgumentException if they are not two lists or two texts");
        GraphCheck x = new GraphCheck();
        int[] some = Due.oneOfEach(x);
        int[] others = Due.oneOfEach(x);
        for (int from = 0; from < 6; from++) {
            for (int to = 0; to < 6; to++) {
                boolean isWay = from == to && (from == 2 || from == 3);
                int a = some[from];
                int b = others[to];
                Due.text("kinds " + from + " and " + to, Due.thrownBy(() -> x.way(a, b)),
                        isWay ? "nothing" : "IllegalArgumentException");
            }
        }
        int[] noNodes = {NONE, -2, 12, 64, Integer.MAX_VALUE, Integer.MIN_VALUE};
        for (int node : noNodes) {
            Due.throwsNoArgument("from " + node + " to a text", () -> x.way(node, 2));
            Due.throwsNoArgument("from a list to " + node, () -> x.way(3, node));
            Due.throwsNoArgument("from " + node + " to itself", () -> x.way(node, node));
        }
    }

    private static void testWayToItself() {
        Due.words("Promise 14: from one list or text to another one: perhaps to itself");
        GraphCheck x = new GraphCheck();
        int text = x.text(Due.bytes("aba"));
        int list = Due.list(x, text, NONE);
        x.put(list, 0, list);
        Due.is("a text", x.way(text, text), 3);
        Due.text("all is kept", Due.steps(x, 3), "0 0 0");
        Due.is("a list that is its own member", x.way(list, list), 3);
        Due.text("all is kept", Due.steps(x, 3), "0 0 0");
    }
}
