/** The calls that README.md shows, in its order, with the answers that it tells. */
public final class ReadmeTest {
    private static final int NONE = GraphCheck.NONE;

    private static final GraphCheck x = new GraphCheck();
    private static int one;
    private static int two;
    private static int text;
    private static int a;
    private static int b;

    public static void main(String[] args) {
        testLists();
        testRecords();
        testWays();
        testConditionsAndChecks();
        Due.end();
    }

    private static void testLists() {
        one = x.number(1L);
        two = x.number(2L);
        Due.is("real", x.real(-2.5), 2);
        text = x.text(0x616263L);
        Due.text("the text", Due.shown(x, text), "\"abc\"");
        a = x.group(3, 0);
        b = x.group(3, 0);
        Due.yes("put in a", x.put(a, 0, one));
        Due.yes("put in b", x.put(b, 0, two));
        Due.no("same", x.same(a, b));
        Due.is("difference", x.difference(a, b), 1);
        Due.is("its step", x.step(0), 0);
        Due.is("its reason", x.step(NONE), 3);
        Due.is("characters of a", x.shown(a, NONE), 3);
        Due.is("character 1 of a", x.shown(a, 1), '1');
    }

    private static void testRecords() {
        int half = 2;
        int r = x.group(5, 7);
        Due.yes("put r in r", x.put(r, 0, r));
        Due.yes("put half in r", x.put(r, 4, half));
        Due.text("the record", Due.shown(x, r), "T7(n0=^1, n4=-2.500)");
        int s = x.group(5, 8);
        Due.yes("put r in s", x.put(s, 0, r));
        Due.is("difference by type", x.difference(r, s), 0);
        Due.is("its reason", x.step(NONE), 6);
        Due.yes("rules", x.rules(false, false, 200));
        Due.is("difference by name", x.difference(r, s), 0);
        Due.is("its reason", x.step(NONE), 7);
        Due.is("its name", x.step(-2), 4);
        Due.yes("ignore", x.ignore(4, true));
        Due.yes("same without the name", x.same(r, s));
        Due.is("nodes", x.count(0), 8);
        Due.is("kinds of nodes", x.count(5), 7);
    }

    private static void testWays() {
        int longer = x.text(0x6263L);
        Due.yes("append", x.append(longer, 0x6465L));
        Due.is("way", x.way(text, longer), 5);
        Due.text("its steps", Due.steps(x, 5), "1 0 0 2 2");
        Due.is("steps that are not KEEP", x.step(NONE), 3);
    }

    private static void testConditionsAndChecks() {
        int isOne = x.condition(0, one, 0);
        int each = x.condition(11, isOne, 0);
        Due.yes("holds", x.holds(each, a));
        Due.yes("a check that holds", x.check(each, a));
        Due.throwsNoState("a check that fails, not soft", () -> x.check(each, b));
        Due.is("the latest cause", x.cause(NONE, 0), isOne);
        Due.yes("rules", x.rules(true, true, 200));
        Due.no("a check that fails", x.check(each, b));
        Due.is("the condition that failed", x.cause(0, 0), isOne);
        Due.is("the node that did not hold", x.cause(0, 1), two);
        Due.is("soft failures", x.count(3), 1);
        Due.throwsUnsupported("settle", () -> x.settle());
        Due.no("assume", x.assume(isOne, two));
        Due.yes("a check that does nothing", x.check(each, b));
        Due.is("settle", x.settle(), 0);
    }
}
