/** Promises 15 and 16: condition, holds. */
public final class ConditionTest {
    private static final int NONE = GraphCheck.NONE;
    private static final int[] FAR = {-2, 64, Integer.MAX_VALUE, Integer.MIN_VALUE};

    public static void main(String[] args) {
        testMaking();
        testWhatTheyAreMadeOf();
        testRoomForConditions();
        testNoSuch();
        testEqual();
        testLessAndMore();
        testNear();
        testStarts();
        testGlob();
        testSize();
        testKind();
        testNotAllAny();
        testEachAndSome();
        testField();
        testHas();
        testRingsAndChanges();
        testManyWays();
        testLastNodes();
        Due.end();
    }

    private static void testMaking() {
        GraphCheck x = new GraphCheck();
        int n = x.number(1L);
        Due.is("first", x.condition(0, n, 99), 0);
        Due.is("second", x.condition(8, 0, -99), 1);
        Due.is("third", x.condition(9, 1, 1), 2);
        Due.is("count", x.count(1), 3);
        int[] noKinds = {-1, 15, 100, Integer.MAX_VALUE, Integer.MIN_VALUE};
        for (int kind : noKinds) {
            Due.throwsNoArgument("kind " + kind, () -> x.condition(kind, 0, 0));
        }
        Due.is("count is as it was", x.count(1), 3);
    }

    private static void testWhatTheyAreMadeOf() {
        GraphCheck x = new GraphCheck();
        int n = x.number(1L);
        int c = x.condition(0, NONE, 0);
        for (int far : FAR) {
            dueWrong(x, 0, far, 0);
        }
        dueWrong(x, 0, 1, 0);
        int[] ofNode = {1, 2, 4, 5, 14};
        for (int kind : ofNode) {
            dueWrong(x, kind, NONE, 0);
            dueWrong(x, kind, 1, 0);
            dueFarIsWrong(x, kind, 0);
            Due.yes("of a node: kind " + kind, x.condition(kind, n, Integer.MIN_VALUE) > 0);
        }
        dueWrong(x, 3, NONE, 0);
        dueWrong(x, 3, 0, NONE);
        dueWrong(x, 3, 1, 0);
        dueWrong(x, 3, 0, 1);
        dueFarIsWrong(x, 3, 0);
        dueWrong(x, 6, -1, 0);
        dueWrong(x, 6, Integer.MIN_VALUE, 0);
        Due.yes("a great size", x.condition(6, Integer.MAX_VALUE, -1) > 0);
        dueWrong(x, 7, -2, 0);
        dueWrong(x, 7, 6, 0);
        int made = x.count(1);
        int[] ofCondition = {8, 11, 12};
        for (int kind : ofCondition) {
            dueWrong(x, kind, -1, 0);
            dueWrong(x, kind, made, 0);
            dueFarIsWrong(x, kind, 0);
        }
        for (int kind = 9; kind <= 10; kind++) {
            dueWrong(x, kind, -1, c);
            dueWrong(x, kind, c, -1);
            dueWrong(x, kind, made, c);
            dueWrong(x, kind, c, made);
            dueFarIsWrong(x, kind, c);
        }
        dueWrong(x, 13, -1, c);
        dueWrong(x, 13, 20, c);
        dueWrong(x, 13, 0, -1);
        dueWrong(x, 13, 0, made);
        Due.is("name 19", x.condition(13, 19, c), made);
        Due.is("b is not looked at", x.condition(8, c, Integer.MAX_VALUE), made + 1);
    }

    private static void dueWrong(GraphCheck x, int kind, int a, int b) {
        int made = x.count(1);
        Due.throwsNoArgument("condition(" + kind + ", " + a + ", " + b + ")",
                () -> x.condition(kind, a, b));
        Due.is("it is not made", x.count(1), made);
    }

    private static void dueFarIsWrong(GraphCheck x, int kind, int b) {
        for (int far : FAR) {
            dueWrong(x, kind, far, b);
        }
    }

    private static void testRoomForConditions() {
        GraphCheck x = new GraphCheck();
        for (int k = 0; k < 64; k++) {
            Due.is("condition " + k, x.condition(6, k, 0), k);
        }
        Due.throwsNoState("condition 64", () -> x.condition(6, 1, 0));
        Due.throwsNoArgument("a wrong condition 64", () -> x.condition(6, -1, 0));
        Due.throwsNoArgument("condition 64 of no kind", () -> x.condition(15, 0, 0));
        Due.is("count", x.count(1), 64);
        Due.yes("condition 3 holds", x.holds(3, Due.text(x, "abc")));
    }

    private static void testNoSuch() {
        GraphCheck x = new GraphCheck();
        int n = x.number(1L);
        int c = x.condition(0, n, 0);
        int[] none = {-2, 1, 64, Integer.MAX_VALUE, Integer.MIN_VALUE};
        for (int k : none) {
            Due.throwsNoNode("holds(0, " + k + ")", () -> x.holds(c, k));
            Due.throwsNoNode("holds(" + k + ", 0)", () -> x.holds(k, n));
        }
        Due.throwsNoNode("holds(NONE, 0)", () -> x.holds(NONE, n));
        Due.no("NONE may be asked", x.holds(c, NONE));
    }

    private static void testEqual() {
        GraphCheck x = new GraphCheck();
        int n = x.number(1L);
        int m = x.number(1L);
        int none = x.condition(0, NONE, 0);
        int equal = x.condition(0, n, 0);
        Due.yes("a same node", x.holds(equal, m));
        Due.no("a real", x.holds(equal, x.real(1.0)));
        Due.no("NONE for a number", x.holds(equal, NONE));
        Due.yes("NONE for NONE", x.holds(none, NONE));
        Due.no("a number for NONE", x.holds(none, n));
    }

    private static void testLessAndMore() {
        GraphCheck x = new GraphCheck();
        int big = x.number(9007199254740993L);
        int less = x.condition(1, big, 0);
        int more = x.condition(2, big, 0);
        int lesser = x.number(9007199254740992L);
        Due.yes("numbers as such: less", x.holds(less, lesser));
        Due.no("numbers as such: not more", x.holds(more, lesser));
        int greater = x.number(9007199254740994L);
        Due.yes("numbers as such: more", x.holds(more, greater));
        Due.no("numbers as such: not less", x.holds(less, greater));
        int real = x.real(9007199254740992.0);
        Due.no("as doubles they are equal: not less", x.holds(less, real));
        Due.no("as doubles they are equal: not more", x.holds(more, real));
        Due.no("not less than itself", x.holds(less, big));
        Due.yes("a real that is less", x.holds(less, x.real(-0.125)));
        Due.yes("a real that is more", x.holds(more, x.real(18014398509481984.0)));
        int lessThanReal = x.condition(1, real, 0);
        Due.no("a number as a double", x.holds(lessThanReal, lesser));
        Due.yes("a real and a real", x.holds(lessThanReal, x.real(0.5)));
        Due.no("NONE", x.holds(less, NONE));
        int text = x.text(97L);
        Due.no("a text is not less", x.holds(less, text));
        Due.no("nothing is less than a text", x.holds(x.condition(1, text, 0), lesser));
        Due.no("nothing is more than a list", x.holds(x.condition(2, Due.list(x), 0), lesser));
        Due.yes("least and greatest", x.holds(x.condition(1, x.number(Long.MAX_VALUE), 0),
                x.number(Long.MIN_VALUE)));
    }

    private static void testNear() {
        GraphCheck x = new GraphCheck();
        int ten = x.number(10L);
        int half = x.real(0.5);
        int near = x.condition(3, ten, half);
        Due.yes("at the distance above", x.holds(near, x.real(10.5)));
        Due.yes("at the distance below", x.holds(near, x.real(9.5)));
        Due.no("further above", x.holds(near, x.real(10.625)));
        Due.no("further below", x.holds(near, x.real(9.375)));
        Due.yes("itself", x.holds(near, ten));
        Due.no("a number further", x.holds(near, x.number(11L)));
        Due.no("a text", x.holds(near, x.text(49L)));
        Due.no("NONE", x.holds(near, NONE));
        Due.no("a distance below 0", x.holds(x.condition(3, ten, x.number(-1L)), ten));
        Due.yes("a distance of 0", x.holds(x.condition(3, ten, x.number(0L)), ten));
        int text = x.text(49L);
        Due.no("a distance that is a text", x.holds(x.condition(3, ten, text), ten));
        Due.no("from a text", x.holds(x.condition(3, text, ten), ten));
        int max = x.number(Long.MAX_VALUE);
        int min = x.number(Long.MIN_VALUE);
        Due.no("doubles do not wrap", x.holds(x.condition(3, max, ten), min));
        Due.yes("as doubles", x.holds(x.condition(3, max, x.number(0L)), x.number(Long.MAX_VALUE - 1)));
    }

    private static void testStarts() {
        GraphCheck x = new GraphCheck();
        int starts = x.condition(4, Due.text(x, "ab*"), 0);
        Due.yes("it begins so", x.holds(starts, Due.text(x, "ab*d")));
        Due.yes("it is just so", x.holds(starts, Due.text(x, "ab*")));
        Due.no("it is shorter", x.holds(starts, Due.text(x, "ab")));
        Due.no("it begins otherwise", x.holds(starts, Due.text(x, "abcd")));
        Due.no("it has it later", x.holds(starts, Due.text(x, " ab*")));
        Due.no("its first character is another one", x.holds(starts, Due.text(x, "xb*")));
        Due.no("its last one is another one", x.holds(starts, Due.text(x, "ab?")));
        Due.no("a number", x.holds(starts, x.number(1L)));
        Due.no("NONE", x.holds(starts, NONE));
        Due.yes("all begin with no characters", x.holds(x.condition(4, x.text(0L), 0), x.text(0L)));
        int list = Due.list(x);
        Due.no("lists are no texts", x.holds(x.condition(4, list, 0), list));
        Due.no("a is no text", x.holds(x.condition(4, list, 0), x.text(0L)));
    }

    private static void testGlob() {
        dueGlob("", "", true);
        dueGlob("", "a", false);
        dueGlob("a", "", false);
        dueGlob("*", "", true);
        dueGlob("*", "abc", true);
        dueGlob("**", "", true);
        dueGlob("?", "", false);
        dueGlob("?", "a", true);
        dueGlob("?", "ab", false);
        dueGlob("?*", "ab", true);
        dueGlob("*?", "", false);
        dueGlob("abc", "abc", true);
        dueGlob("abc", "abcd", false);
        dueGlob("a*c", "ac", true);
        dueGlob("a*c", "abcbc", true);
        dueGlob("a*c", "abcb", false);
        dueGlob("*b?d*", "xabcde", true);
        dueGlob("*b?d*", "xabde", false);
        dueGlob("*ab*ab", "abab", true);
        dueGlob("*ab*ab", "ab", false);
        dueGlob("a?", "a?", true);
        dueGlob("\u00ff*", "\u00ff\u0001", true);
        dueGlob("*".repeat(40), "x".repeat(40), true);
        dueGlob("?".repeat(40), "x".repeat(40), true);
        dueGlob("?".repeat(39), "x".repeat(40), false);
        dueGlob("*x".repeat(19) + "*y", "x".repeat(40), false);
        dueGlob("*x".repeat(20), "x".repeat(40), true);
        GraphCheck x = new GraphCheck();
        int any = x.condition(5, x.text('*'), 0);
        Due.no("a number fits nothing", x.holds(any, x.number(1L)));
        Due.no("NONE fits nothing", x.holds(any, NONE));
        Due.no("nothing fits a number", x.holds(x.condition(5, 1, 0), 0));
    }

    private static void dueGlob(String pattern, String text, boolean want) {
        GraphCheck x = new GraphCheck();
        int glob = x.condition(5, Due.text(x, pattern), 0);
        Due.is("glob " + pattern + " of " + text, x.holds(glob, Due.text(x, text)) ? 1 : 0, want ? 1 : 0);
    }

    private static void testSize() {
        GraphCheck x = new GraphCheck();
        int two = x.condition(6, 2, 0);
        int zero = x.condition(6, 0, 0);
        int n = x.number(2L);
        Due.yes("text", x.holds(two, Due.text(x, "ab")));
        Due.yes("list", x.holds(two, Due.list(x, n, NONE)));
        Due.yes("bag", x.holds(two, Due.bag(x, n, n)));
        Due.yes("record", x.holds(two, Due.record(x, 0, 5, n, 19, NONE, 5, NONE)));
        x.ignore(5, true);
        Due.yes("fields that are ignored are fields", x.holds(two, Due.record(x, 0, 5, n, 19, n)));
        Due.no("a longer text", x.holds(two, Due.text(x, "abc")));
        Due.yes("no members", x.holds(zero, Due.list(x)));
        Due.no("some members", x.holds(zero, Due.list(x, NONE)));
        Due.no("a number has no members, fields or characters to count", x.holds(zero, n));
        Due.no("nor has NONE", x.holds(zero, NONE));
    }

    private static void testKind() {
        GraphCheck x = new GraphCheck();
        int[] nodes = {x.number(1L), x.real(1.0), x.text(1L), x.group(3, 0), x.group(4, 0), x.group(5, 0)};
        for (int kind = 0; kind <= 5; kind++) {
            int c = x.condition(7, kind, 0);
            for (int other = 0; other <= 5; other++) {
                Due.is("kind " + kind + " of " + other, x.holds(c, nodes[other]) ? 1 : 0, kind == other ? 1 : 0);
            }
            Due.no("NONE is not of kind " + kind, x.holds(c, NONE));
        }
        int none = x.condition(7, NONE, 0);
        Due.yes("kind NONE", x.holds(none, NONE));
        Due.no("a number is not NONE", x.holds(none, nodes[0]));
    }

    private static void testNotAllAny() {
        GraphCheck x = new GraphCheck();
        int text = x.text(Due.bytes("ab"));
        int yes = x.condition(7, 2, 0);
        int no = x.condition(6, 5, 0);
        Due.no("not yes", x.holds(x.condition(8, yes, 0), text));
        Due.yes("not no", x.holds(x.condition(8, no, 0), text));
        Due.yes("all yes yes", x.holds(x.condition(9, yes, yes), text));
        Due.no("all yes no", x.holds(x.condition(9, yes, no), text));
        Due.no("all no yes", x.holds(x.condition(9, no, yes), text));
        Due.no("any no no", x.holds(x.condition(10, no, no), text));
        Due.yes("any yes no", x.holds(x.condition(10, yes, no), text));
        Due.yes("any no yes", x.holds(x.condition(10, no, yes), text));
        Due.yes("not, of NONE", x.holds(x.condition(8, yes, 0), NONE));
    }

    private static void testEachAndSome() {
        GraphCheck x = new GraphCheck();
        int n = x.number(1L);
        int t = x.text(1L);
        int isNumber = x.condition(7, 0, 0);
        int each = x.condition(11, isNumber, 0);
        int some = x.condition(12, isNumber, 0);
        int[] groups = {3, 4};
        for (int kind : groups) {
            int group = x.group(kind, 0);
            Due.yes("each of none", x.holds(each, group));
            Due.no("some of none", x.holds(some, group));
            x.put(group, 0, n);
            Due.yes("each of one", x.holds(each, group));
            Due.yes("some of one", x.holds(some, group));
            x.put(group, 0, t);
            Due.no("not each", x.holds(each, group));
            Due.yes("some still", x.holds(some, group));
        }
        Due.no("some of NONE members", x.holds(some, Due.list(x, NONE)));
        Due.yes("NONE is a member", x.holds(x.condition(12, x.condition(7, NONE, 0), 0), Due.list(x, n, NONE)));
        int[] others = {n, t, NONE, Due.record(x, 0, 0, n)};
        for (int node : others) {
            Due.no("each of no list or bag", x.holds(each, node));
            Due.no("some of no list or bag", x.holds(some, node));
        }
    }

    private static void testField() {
        GraphCheck x = new GraphCheck();
        int n = x.number(1L);
        int isNumber = x.condition(7, 0, 0);
        int isNone = x.condition(7, NONE, 0);
        int field = x.condition(13, 4, isNumber);
        Due.yes("a field that holds", x.holds(field, Due.record(x, 0, 4, n)));
        Due.no("a field that does not", x.holds(field, Due.record(x, 0, 4, NONE)));
        Due.no("no such field", x.holds(field, Due.record(x, 0, 5, n)));
        Due.no("no field is not NONE", x.holds(x.condition(13, 4, isNone), x.group(5, 0)));
        Due.yes("a field that is NONE", x.holds(x.condition(13, 4, isNone), Due.record(x, 0, 4, NONE)));
        Due.no("a list of five", x.holds(field, Due.list(x, n, n, n, n, n)));
        Due.no("NONE", x.holds(field, NONE));
        x.ignore(4, true);
        Due.yes("a field that is ignored is one", x.holds(field, Due.record(x, 0, 4, n)));
    }

    private static void testHas() {
        GraphCheck x = new GraphCheck();
        int one = x.number(1L);
        int otherOne = x.number(1L);
        int two = x.number(2L);
        int has = x.condition(14, Due.list(x, one, two, one), 0);
        Due.yes("a bag has a list's", x.holds(has, Due.bag(x, NONE, otherOne, otherOne, two)));
        Due.yes("a list has them", x.holds(has, Due.list(x, two, one, one)));
        Due.no("one is too few", x.holds(has, Due.list(x, two, one, two)));
        Due.no("a record", x.holds(has, Due.record(x, 0, 0, one, 1, two, 2, one)));
        Due.no("NONE", x.holds(has, NONE));
        Due.no("a number", x.holds(has, one));
        Due.yes("no members", x.holds(x.condition(14, Due.bag(x), 0), Due.list(x)));
        int hasNone = x.condition(14, Due.bag(x, NONE), 0);
        Due.yes("NONE is a member", x.holds(hasNone, Due.list(x, one, NONE)));
        Due.no("NONE is none of its members", x.holds(hasNone, Due.list(x, one)));
        Due.no("nothing has a record's", x.holds(x.condition(14, x.group(5, 0), 0), Due.list(x)));
        Due.no("nothing has a number's", x.holds(x.condition(14, one, 0), Due.list(x)));
    }

    private static void testRingsAndChanges() {
        GraphCheck x = new GraphCheck();
        int ring = x.group(3, 0);
        int equal = x.condition(0, ring, 0);
        int each = x.condition(11, equal, 0);
        Due.yes("each of none", x.holds(each, ring));
        x.put(ring, 0, ring);
        Due.yes("itself is same as itself", x.holds(each, ring));
        Due.yes("a list of it is same", x.holds(each, Due.list(x, ring)));
        x.put(ring, 0, NONE);
        Due.no("NONE is not", x.holds(each, ring));
    }

    /** Node 63 and NONE, of neighbouring conditions, are not taken for one another. */
    private static void testLastNodes() {
        GraphCheck x = new GraphCheck();
        for (int k = 0; k < 62; k++) {
            x.number(k);
        }
        int list = Due.list(x, NONE);
        x.put(list, 0, x.text(97L));
        int isNone = x.condition(7, NONE, 0);
        int isText = x.condition(7, 2, 0);
        int either = x.condition(10, isNone, isText);
        Due.yes("node 63 is a text", x.holds(isText, 63));
        Due.no("node 63 is not NONE", x.holds(isNone, 63));
        Due.no("NONE is no text", x.holds(isText, NONE));
        Due.yes("each is NONE or a text", x.holds(x.condition(11, either, 0), list));
        Due.no("not each is NONE", x.holds(x.condition(11, isNone, 0), list));
        Due.no("not each is a text", x.holds(x.condition(11, isText, 0), list));
        Due.yes("some are texts", x.holds(x.condition(12, isText, 0), list));
        Due.yes("some are NONE", x.holds(x.condition(12, isNone, 0), list));
    }

    /** 12 to the 60th ways lead down these conditions. */
    private static void testManyWays() {
        GraphCheck x = new GraphCheck();
        int ring = x.group(3, 0);
        for (int k = 0; k < 12; k++) {
            x.put(ring, 0, ring);
        }
        int c = x.condition(7, 3, 0);
        while (x.count(1) < 63) {
            c = x.condition(x.count(1) % 2 == 0 ? 11 : 12, c, 0);
        }
        Due.yes("all ways hold", x.holds(c, ring));
        Due.no("not so", x.holds(x.condition(8, c, 0), ring));
        Due.yes("condition 62", x.check(c, ring));
        GraphCheck y = new GraphCheck();
        int n = y.number(1L);
        int d = y.condition(7, 2, 0);
        for (int k = 0; k < 63; k++) {
            d = y.condition(9, d, d);
        }
        int deepest = d;
        Due.throwsNoState("a cause 63 conditions down", () -> y.check(deepest, n));
        Due.is("it is the first condition", y.cause(NONE, 0), 0);
    }
}
