/** Promises 14 and 12: way, and its steps. */
public final class WayTest {
    private static final int NONE = GraphCheck.NONE;

    public static void main(String[] args) {
        testTexts();
        testChoice();
        testLists();
        testLongest();
        testAfterLongerOnes();
        testWrong();
        testWayIsKept();
        Due.end();
    }

    private static void testTexts() {
        dueWay("", "", "", 0);
        dueWay("abc", "abc", "0 0 0", 0);
        dueWay("abc", "", "1 1 1", 3);
        dueWay("", "ab", "2 2", 2);
        dueWay("a", "b", "1 2", 2);
        dueWay("abcd", "abd", "0 0 1 0", 1);
        dueWay("abd", "abcd", "0 0 2 0", 1);
        dueWay("kitten", "sitting", "1 2 0 0 0 1 2 0 2", 5);
        dueWay("abcabba", "cbabac", "1 1 0 1 0 2 0 0 2", 5);
    }

    /** Of ways that are as short, the one that keeps, else drops, at the first step. */
    private static void testChoice() {
        dueWay("ab", "ba", "1 0 2", 2);
        dueWay("ba", "ab", "1 0 2", 2);
        dueWay("aa", "a", "0 1", 1);
        dueWay("a", "aa", "0 2", 1);
        dueWay("ab", "cd", "1 1 2 2", 4);
        dueWay("xab", "aby", "1 0 0 2", 2);
        dueWay("abxy", "xyab", "1 1 0 0 2 2", 4);
        dueWay("abc", "xbca", "1 2 0 0 2", 3);
        dueWay("bxc", "abc", "2 0 1 0", 2);
    }

    private static void dueWay(String from, String to, String steps, int cost) {
        GraphCheck x = new GraphCheck();
        String what = "way from " + from + " to " + to;
        int size = x.way(Due.text(x, from), Due.text(x, to));
        Due.text(what, Due.steps(x, size), steps);
        Due.is(what + ": steps not KEEP", x.step(NONE), cost);
        Due.throwsNoNode(what + ": step " + size, () -> x.step(size));
        Due.throwsNoNode(what + ": step -2", () -> x.step(-2));
    }

    private static void testLists() {
        GraphCheck x = new GraphCheck();
        int one = x.number(1L);
        int otherOne = x.number(1L);
        int ring = x.group(4, 0);
        x.put(ring, 0, ring);
        int otherRing = Due.bag(x, ring);
        int a = Due.list(x, one, ring, NONE, one);
        int b = Due.list(x, otherRing, NONE, otherOne, one);
        Due.is("what is same is kept", x.way(a, b), 5);
        Due.text("its steps", Due.steps(x, 5), "1 0 0 0 2");
        Due.is("from a list to itself", x.way(a, a), 4);
        Due.text("all is kept", Due.steps(x, 4), "0 0 0 0");
        Due.is("from no members to none", x.way(Due.list(x), Due.list(x)), 0);
        Due.is("no steps that are not KEEP", x.step(NONE), 0);
        int r1 = Due.record(x, 1, 0, one);
        int r2 = Due.record(x, 2, 0, one);
        Due.is("types count", x.way(Due.list(x, r1), Due.list(x, r2)), 2);
        x.rules(false, false, 200);
        Due.is("types do not count", x.way(Due.list(x, r1), Due.list(x, r2)), 1);
        Due.is("to a list in itself", x.way(Due.list(x), Due.list(x, NONE)), 1);
        Due.is("its step", x.step(0), 2);
    }

    private static void testLongest() {
        GraphCheck x = new GraphCheck();
        int a = Due.text(x, "a".repeat(40));
        int b = Due.text(x, "b".repeat(40));
        Due.is("80 steps", x.way(a, b), 80);
        Due.is("80 that are not KEEP", x.step(NONE), 80);
        Due.is("step 39", x.step(39), 1);
        Due.is("step 40", x.step(40), 2);
        Due.is("step 79", x.step(79), 2);
        Due.throwsNoNode("step 80", () -> x.step(80));
        Due.is("40 steps", x.way(a, a), 40);
    }

    /** What an elder way went through is not gone through again. */
    private static void testAfterLongerOnes() {
        GraphCheck x = new GraphCheck();
        int longer = Due.text(x, "abcabc");
        int shorter = Due.text(x, "ab");
        x.way(longer, longer);
        Due.is("to a shorter one", x.way(longer, shorter), 6);
        Due.text("its steps", Due.steps(x, 6), "0 0 1 1 1 1");
        x.way(longer, longer);
        Due.is("from a shorter one", x.way(shorter, longer), 6);
        Due.text("its steps", Due.steps(x, 6), "0 0 2 2 2 2");
    }

    private static void testWrong() {
        GraphCheck x = new GraphCheck();
        int one = x.number(1L);
        int text = x.text(97L);
        int list = Due.list(x);
        int bag = Due.bag(x);
        int record = x.group(5, 0);
        int real = x.real(1.0);
        int[] others = {one, list, bag, record, real, NONE, -2, 6, 64, Integer.MAX_VALUE, Integer.MIN_VALUE};
        for (int other : others) {
            Due.throwsNoArgument("way(text, " + other + ")", () -> x.way(text, other));
            Due.throwsNoArgument("way(" + other + ", text)", () -> x.way(other, text));
            if (other != list) {
                Due.throwsNoArgument("way(" + other + ", itself)", () -> x.way(other, other));
                Due.throwsNoArgument("way(list, " + other + ")", () -> x.way(list, other));
            }
        }
        Due.throwsNoNode("there was no way", () -> x.step(NONE));
    }

    private static void testWayIsKept() {
        GraphCheck x = new GraphCheck();
        int a = x.text(Due.bytes("ab"));
        int b = x.text(Due.bytes("b"));
        x.way(a, b);
        x.append(a, Due.bytes("zz"));
        Due.throwsNoArgument("no way", () -> x.way(a, NONE));
        Due.throwsNoNode("no difference", () -> x.difference(a, 64));
        Due.text("the way is as it was", Due.steps(x, 2), "1 0");
        Due.is("its cost, too", x.step(NONE), 1);
        Due.is("a difference", x.difference(a, b), 0);
        Due.is("is the latest now", x.step(NONE), 3);
        Due.throwsNoNode("the way is gone", () -> x.step(0));
    }
}
