/** Promises 10 to 12: same, difference, step. */
public final class SameTest {
    private static final int NONE = GraphCheck.NONE;

    public static void main(String[] args) {
        testValues();
        testLists();
        testRings();
        testBags();
        testBagsOfRings();
        testRecords();
        testNoSuchNode();
        testReasons();
        testPaths();
        testLeastPath();
        testStepsAreKept();
        testLongPath();
        Due.end();
    }

    private static void testValues() {
        GraphCheck x = new GraphCheck();
        int one = x.number(1L);
        int otherOne = x.number(1L);
        int two = x.number(2L);
        int real = x.real(1.0);
        int plus = x.real(0.0);
        int minus = x.real(-0.0);
        int ab = x.text(Due.bytes("ab"));
        int otherAb = x.append(x.text(Due.bytes("a")), Due.bytes("b")) ? 7 : NONE;
        int abc = x.text(Due.bytes("abc"));
        Due.yes("NONE and NONE", x.same(NONE, NONE));
        Due.no("NONE and a number", x.same(NONE, one));
        Due.no("a number and NONE", x.same(one, NONE));
        Due.yes("a node and itself", x.same(one, one));
        Due.yes("equal numbers", x.same(one, otherOne));
        Due.no("other numbers", x.same(one, two));
        Due.no("a number and a real", x.same(one, real));
        Due.yes("0.0 and -0.0", x.same(plus, minus));
        Due.no("other reals", x.same(plus, real));
        Due.yes("equal texts", x.same(ab, otherAb));
        Due.no("a text and a longer one", x.same(ab, abc));
        Due.no("other texts", x.same(ab, x.text(Due.bytes("ac"))));
        Due.is("kinds of nodes", x.count(5), 7);
    }

    private static void testLists() {
        GraphCheck x = new GraphCheck();
        int one = x.number(1L);
        int otherOne = x.number(1L);
        int two = x.number(2L);
        Due.yes("empty lists", x.same(Due.list(x), Due.list(x)));
        Due.no("a list and a bag", x.same(Due.list(x), Due.bag(x)));
        int a = Due.list(x, one, two, NONE);
        Due.yes("place by place", x.same(a, Due.list(x, otherOne, two, NONE)));
        Due.no("another order", x.same(a, Due.list(x, two, one, NONE)));
        Due.no("another length", x.same(a, Due.list(x, one, two)));
        Due.no("NONE is no number", x.same(a, Due.list(x, one, two, one)));
    }

    private static void testRings() {
        GraphCheck x = new GraphCheck();
        int a = x.group(3, 0);
        x.put(a, 0, a);
        int b = x.group(3, 0);
        int c = Due.list(x, b);
        x.put(b, 0, c);
        Due.yes("a ring of one and a ring of two", x.same(a, b));
        Due.yes("and its other list", x.same(a, c));
        Due.no("a ring and a list without members", x.same(a, Due.list(x)));
        Due.no("a ring and a list of NONE", x.same(a, Due.list(x, NONE)));
        x.put(c, 0, NONE);
        Due.no("the ring of two has one member more", x.same(a, b));
        Due.is("all kinds: a, b, c and two lists", x.count(5), 5);
    }

    private static void testBags() {
        GraphCheck x = new GraphCheck();
        int one = x.number(1L);
        int otherOne = x.number(1L);
        int two = x.number(2L);
        Due.yes("another order", x.same(Due.bag(x, one, two, NONE), Due.bag(x, NONE, two, otherOne)));
        Due.no("other repeats", x.same(Due.bag(x, one, one, two), Due.bag(x, one, two, two)));
        Due.no("more members", x.same(Due.bag(x, one, one), Due.bag(x, one)));
        Due.no("other members", x.same(Due.bag(x, one), Due.bag(x, two)));
        Due.yes("bags in bags", x.same(Due.bag(x, Due.bag(x, one, two), Due.bag(x)),
                Due.bag(x, Due.bag(x), Due.bag(x, two, one))));
    }

    private static void testBagsOfRings() {
        GraphCheck x = new GraphCheck();
        int one = x.number(1L);
        int a = Due.bag(x, one);
        x.put(a, 0, a);
        int b = x.group(4, 0);
        int c = Due.bag(x, b, one);
        x.put(b, 0, c);
        x.put(b, 0, one);
        Due.yes("rings through bags", x.same(a, c));
        x.put(a, 0, a);
        x.put(b, 0, b);
        Due.no("one is shorter", x.same(a, c));
        x.put(c, 0, b);
        Due.yes("all are {1, it, it}", x.same(a, c));
    }

    private static void testRecords() {
        GraphCheck x = new GraphCheck();
        int one = x.number(1L);
        int otherOne = x.number(1L);
        int two = x.number(2L);
        int a = Due.record(x, 3, 1, one, 2, two);
        Due.yes("the same fields", x.same(a, Due.record(x, 3, 2, two, 1, otherOne)));
        Due.no("another value", x.same(a, Due.record(x, 3, 2, one, 1, one)));
        Due.no("a field more", x.same(a, Due.record(x, 3, 2, two, 1, one, 0, NONE)));
        Due.no("a field that is NONE is one", x.same(Due.record(x, 3), Due.record(x, 3, 0, NONE)));
        int other = Due.record(x, 4, 2, two, 1, one);
        Due.no("another type", x.same(a, other));
        x.rules(false, false, 200);
        Due.yes("types do not count", x.same(a, other));
        int fewer = Due.record(x, 3, 1, one);
        Due.no("a field less", x.same(a, fewer));
        x.ignore(2, true);
        Due.yes("its name is ignored", x.same(a, fewer));
    }

    private static void testNoSuchNode() {
        GraphCheck x = new GraphCheck();
        int one = x.number(1L);
        int[] noNodes = {-2, 1, 64, Integer.MAX_VALUE, Integer.MIN_VALUE};
        x.difference(one, NONE);
        for (int node : noNodes) {
            Due.throwsNoNode("same(0, " + node + ")", () -> x.same(one, node));
            Due.throwsNoNode("same(" + node + ", 0)", () -> x.same(node, one));
            Due.throwsNoNode("same(" + node + ", itself)", () -> x.same(node, node));
            Due.throwsNoNode("difference(0, " + node + ")", () -> x.difference(one, node));
            Due.throwsNoNode("difference(" + node + ", NONE)", () -> x.difference(node, NONE));
        }
        Due.is("the latest that did not throw is told still", x.step(NONE), 1);
    }

    private static void testReasons() {
        GraphCheck x = new GraphCheck();
        int one = x.number(1L);
        int two = x.number(2L);
        int list = Due.list(x, one);
        int record = Due.record(x, 1, 3, one, 8, one);
        dueReason(x, "NONE and a number", NONE, one, 1, NONE);
        dueReason(x, "a list and NONE", list, NONE, 1, NONE);
        dueReason(x, "a number and a list", one, list, 2, NONE);
        dueReason(x, "numbers", one, two, 3, NONE);
        dueReason(x, "reals", x.real(0.5), x.real(0.25), 3, NONE);
        dueReason(x, "texts", x.text(65L), x.text(66L), 3, NONE);
        dueReason(x, "lengths", list, Due.list(x, one, one), 4, NONE);
        dueReason(x, "bags", Due.bag(x, one), Due.bag(x, two), 5, NONE);
        dueReason(x, "bags of other sizes", Due.bag(x), Due.bag(x, two), 5, NONE);
        dueReason(x, "types", record, Due.record(x, 2, 3, one, 8, one), 6, NONE);
        dueReason(x, "types ahead of fields", record, Due.record(x, 2), 6, NONE);
        dueReason(x, "the least name", record, Due.record(x, 1, 9, one), 7, 3);
        dueReason(x, "the least name, of the other one", record, Due.record(x, 1, 0, NONE), 7, 0);
        dueReason(x, "a name, though another one's value differs", record,
                Due.record(x, 1, 3, two, 8, one, 19, one), 7, 19);
        x.ignore(3, true);
        dueReason(x, "the least name that is not ignored", record, Due.record(x, 1, 9, one), 7, 8);
        x.rules(false, false, 200);
        dueReason(x, "types that do not count", record, Due.record(x, 2, 9, one), 7, 8);
    }

    private static void dueReason(GraphCheck x, String what, int a, int b, int reason, int name) {
        Due.is("difference of " + what, x.difference(a, b), 0);
        Due.is("reason of " + what, x.step(NONE), reason);
        Due.is("name of " + what, x.step(-2), name);
        Due.throwsNoNode("step 0 of " + what, () -> x.step(0));
        Due.throwsNoNode("step -3 of " + what, () -> x.step(-3));
    }

    private static void testPaths() {
        GraphCheck x = new GraphCheck();
        int one = x.number(1L);
        int two = x.number(2L);
        int a = Due.record(x, 0, 2, Due.list(x, one, one, one), 19, one);
        int b = Due.record(x, 0, 2, Due.list(x, one, one, two), 19, one);
        Due.is("a place in a field", x.difference(a, b), 2);
        Due.text("its steps", Due.steps(x, 2), "2 2");
        Due.is("its reason", x.step(NONE), 3);
        Due.is("it has no name", x.step(-2), NONE);
        Due.throwsNoNode("step 2 of 2", () -> x.step(2));
        Due.throwsNoNode("step far off", () -> x.step(Integer.MAX_VALUE));
        Due.throwsNoNode("step far below", () -> x.step(Integer.MIN_VALUE));
        x.put(b, 19, NONE);
        Due.is("a shorter path by a greater name", x.difference(a, b), 1);
        Due.is("its step", x.step(0), 19);
        Due.is("its reason", x.step(NONE), 1);
        x.ignore(19, true);
        Due.is("no path leads over an ignored name", x.difference(a, b), 2);
        x.ignore(2, true);
        Due.is("same", x.difference(a, b), NONE);
    }

    private static void testLeastPath() {
        GraphCheck x = new GraphCheck();
        int one = x.number(1L);
        int two = x.number(2L);
        int deep = Due.list(x, Due.list(x, one), one);
        int deepOther = Due.list(x, Due.list(x, two), two);
        Due.is("a shorter path by a greater place", x.difference(deep, deepOther), 1);
        Due.is("the greater place", x.step(0), 1);
        int a = Due.list(x, one, Due.list(x, one, one), Due.list(x, one, one));
        int b = Due.list(x, one, Due.list(x, one, two), Due.list(x, two, one));
        Due.is("paths 1 1 and 2 0", x.difference(a, b), 2);
        Due.text("the lesser first step", Due.steps(x, 2), "1 1");
        int c = Due.list(x, NONE);
        int d = Due.list(x, c, c);
        int e = Due.list(x, one);
        int f = Due.list(x, e, e);
        Due.is("two ways to one pair", x.difference(d, f), 2);
        Due.text("the lesser one", Due.steps(x, 2), "0 0");
    }

    private static void testStepsAreKept() {
        GraphCheck x = new GraphCheck();
        int one = x.number(1L);
        int a = Due.list(x, one);
        int b = Due.list(x, NONE);
        x.difference(a, b);
        x.put(a, 0, one);
        x.ignore(3, true);
        x.rules(false, true, 3);
        Due.is("the step is as it was", x.step(0), 0);
        Due.is("the reason is as it was", x.step(NONE), 1);
        Due.throwsNoArgument("no way", () -> x.way(a, one));
        Due.is("the difference is the latest still", x.step(NONE), 1);
        x.way(a, b);
        Due.is("now it is the way", x.step(NONE), 3);
        Due.throwsNoNode("a way tells no name", () -> x.step(-2));
        Due.is("same ones have no difference", x.difference(a, a), NONE);
        int[] steps = {NONE, -2, 0, 1};
        for (int k : steps) {
            Due.throwsNoNode("an elder way is gone: step " + k, () -> x.step(k));
        }
    }

    private static void testLongPath() {
        GraphCheck x = new GraphCheck();
        int[] left = new int[31];
        int[] right = new int[33];
        makeRing(x, left);
        makeRing(x, right);
        Due.is("nodes", x.count(0), 64);
        Due.yes("rings of 31 and 33 lists", x.same(left[0], right[5]));
        Due.is("one kind of nodes", x.count(5), 1);
        x.put(right[30], 0, NONE);
        Due.is("a path round the ring", x.difference(left[0], right[0]), 30);
        Due.is("its reason", x.step(NONE), 4);
        Due.is("its last step", x.step(29), 0);
        Due.is("a longer one", x.difference(left[0], right[31]), 32);
        Due.throwsNoNode("step 32", () -> x.step(32));
        Due.is("a longest one in one ring", x.difference(right[31], right[32]), 31);
    }

    private static void makeRing(GraphCheck x, int[] ring) {
        for (int k = 0; k < ring.length; k++) {
            ring[k] = x.group(3, 0);
        }
        for (int k = 0; k < ring.length; k++) {
            x.put(ring[k], 0, ring[(k + 1) % ring.length]);
        }
    }
}
