/** Promises 17 to 21: check, assume, cause, settle, count. */
public final class CheckTest {
    private static final int NONE = GraphCheck.NONE;

    public static void main(String[] args) {
        testCheckThrows();
        testCheckSoft();
        testNoSuch();
        testAssumption();
        testSettle();
        testManyFailures();
        testCauses();
        testCauseOfNone();
        testWrongCauses();
        testAfterChanges();
        testCount();
        Due.end();
    }

    private static void testCheckThrows() {
        GraphCheck x = new GraphCheck();
        int n = x.number(1L);
        int isNumber = x.condition(7, 0, 0);
        int isText = x.condition(7, 2, 0);
        Due.yes("it holds", x.check(isNumber, n));
        Due.throwsNoNode("nothing has failed", () -> x.cause(NONE, 0));
        Due.throwsNoState("it fails", () -> x.check(isText, n));
        Due.is("the latest cause: condition", x.cause(NONE, 0), isText);
        Due.is("the latest cause: node", x.cause(NONE, 1), n);
        Due.is("it is no soft failure", x.count(3), 0);
        Due.is("its cause is not noted", x.count(2), 0);
        Due.throwsNoNode("it is not cause 0", () -> x.cause(0, 0));
        Due.is("settle() does not count it", x.settle(), 1);
    }

    private static void testCheckSoft() {
        GraphCheck x = new GraphCheck();
        int n = x.number(1L);
        int isText = x.condition(7, 2, 0);
        int isNone = x.condition(7, NONE, 0);
        x.rules(true, true, 200);
        Due.no("it fails softly", x.check(isText, n));
        Due.no("another one", x.check(isNone, n));
        Due.no("NONE fails", x.check(isText, NONE));
        Due.yes("NONE holds", x.check(isNone, NONE));
        Due.is("failures", x.count(3), 3);
        Due.is("causes", x.count(2), 3);
        Due.is("cause 0: condition", x.cause(0, 0), isText);
        Due.is("cause 0: node", x.cause(0, 1), n);
        Due.is("cause 1", x.cause(1, 0), isNone);
        Due.is("cause 2: node", x.cause(2, 1), NONE);
        Due.is("the latest one", x.cause(NONE, 1), NONE);
        x.rules(true, false, 200);
        Due.throwsNoState("one that throws", () -> x.check(isNone, n));
        Due.is("the latest one now", x.cause(NONE, 0), isNone);
        Due.is("failures are as they were", x.count(3), 3);
        Due.is("causes are as they were", x.count(2), 3);
        Due.throwing("some failed softly", UnsupportedOperationException.class, () -> x.settle());
    }

    private static void testNoSuch() {
        GraphCheck x = new GraphCheck();
        int n = x.number(1L);
        int c = x.condition(7, 0, 0);
        int[] none = {-2, 1, 64, Integer.MAX_VALUE, Integer.MIN_VALUE};
        for (int round = 0; round < 2; round++) {
            for (int k : none) {
                Due.throwsNoNode("check(0, " + k + ")", () -> x.check(c, k));
                Due.throwsNoNode("check(" + k + ", 0)", () -> x.check(k, n));
                Due.throwsNoNode("assume(0, " + k + ")", () -> x.assume(c, k));
                Due.throwsNoNode("assume(" + k + ", 0)", () -> x.assume(k, n));
            }
            Due.throwsNoNode("check(NONE, 0)", () -> x.check(NONE, n));
            Due.throwsNoNode("assume(NONE, 0)", () -> x.assume(NONE, n));
            Due.is("assumptions that did not hold", x.count(4), round);
            x.assume(c, NONE);
        }
    }

    private static void testAssumption() {
        GraphCheck x = new GraphCheck();
        int n = x.number(1L);
        int isNumber = x.condition(7, 0, 0);
        int isText = x.condition(7, 2, 0);
        Due.yes("an assumption that holds", x.assume(isNumber, n));
        Due.is("it is none that did not", x.count(4), 0);
        Due.throwsNoState("checks are done still", () -> x.check(isText, n));
        Due.no("an assumption that does not hold", x.assume(isText, n));
        Due.is("it is told", x.count(4), 1);
        Due.yes("a check that would fail does nothing", x.check(isText, NONE));
        Due.is("the latest failure is as it was", x.cause(NONE, 1), n);
        Due.yes("a check that would hold does nothing", x.check(isNumber, n));
        Due.yes("a later assumption may hold", x.assume(isNumber, n));
        Due.is("that mends nothing", x.count(4), 1);
        x.rules(true, true, 200);
        Due.yes("nor does soft", x.check(isText, n));
        Due.is("no failures", x.count(3), 0);
        Due.is("none of the checks held", x.settle(), 0);
        Due.is("the assumption is gone", x.count(4), 0);
        Due.no("checks are done again", x.check(isText, n));
    }

    private static void testSettle() {
        GraphCheck x = new GraphCheck();
        int n = x.number(1L);
        int isNumber = x.condition(7, 0, 0);
        int isText = x.condition(7, 2, 0);
        x.check(isNumber, n);
        x.check(isNumber, n);
        x.assume(isNumber, n);
        x.holds(isNumber, n);
        Due.is("two checks held", x.settle(), 2);
        Due.is("none since then", x.settle(), 0);
        x.rules(true, true, 200);
        x.check(isNumber, n);
        x.check(isText, n);
        x.assume(isText, n);
        Due.throwing("one failed softly", UnsupportedOperationException.class, () -> x.settle());
        Due.is("causes are gone", x.count(2), 0);
        Due.is("failures are gone", x.count(3), 0);
        Due.is("assumptions are gone", x.count(4), 0);
        Due.throwsNoNode("cause 0 is gone", () -> x.cause(0, 0));
        Due.is("the latest failure is told still", x.cause(NONE, 0), isText);
        Due.is("what held is gone", x.settle(), 0);
        x.check(isNumber, n);
        x.assume(isText, n);
        x.check(isNumber, n);
        Due.is("one held before the assumption", x.settle(), 1);
    }

    private static void testManyFailures() {
        GraphCheck x = new GraphCheck();
        int isText = x.condition(7, 2, 0);
        x.rules(true, true, 200);
        for (int k = 0; k < 33; k++) {
            Due.no("failure " + k, x.check(isText, x.number(k)));
            Due.is("it is counted", x.count(3), k + 1);
            Due.is("30 at most are noted", x.count(2), Math.min(k + 1, 30));
            Due.is("the latest one is told", x.cause(NONE, 1), k);
        }
        Due.is("cause 29", x.cause(29, 1), 29);
        Due.throwsNoNode("cause 30", () -> x.cause(30, 1));
        Due.throwing("settle", UnsupportedOperationException.class, () -> x.settle());
        x.check(isText, 7);
        Due.is("they are noted anew", x.cause(0, 1), 7);
        Due.is("one failure", x.count(3), 1);
    }

    private static void testCauses() {
        GraphCheck x = new GraphCheck();
        int n = x.number(1L);
        int t = x.text(1L);
        int isNumber = x.condition(7, 0, 0);
        int isText = x.condition(7, 2, 0);
        int isReal = x.condition(7, 1, 0);
        x.rules(true, true, 200);
        dueCause(x, "ALL: a does not hold", x.condition(9, isText, isReal), n, isText, n);
        dueCause(x, "ALL: a holds", x.condition(9, isNumber, isReal), n, isReal, n);
        int any = x.condition(10, isText, isReal);
        dueCause(x, "ANY", any, n, any, n);
        int not = x.condition(8, isNumber, 0);
        dueCause(x, "NOT", not, n, not, n);
        int each = x.condition(11, isNumber, 0);
        dueCause(x, "EACH: the first member", each, Due.list(x, n, t, NONE), isNumber, t);
        dueCause(x, "EACH of a bag: NONE", each, Due.bag(x, n, NONE, t), isNumber, NONE);
        dueCause(x, "EACH of no list or bag", each, n, each, n);
        int some = x.condition(12, isReal, 0);
        dueCause(x, "SOME", some, Due.list(x, n, t), some, x.count(0) - 1);
        int field = x.condition(13, 6, isReal);
        int record = Due.record(x, 0, 6, t);
        dueCause(x, "FIELD", field, record, isReal, t);
        dueCause(x, "FIELD without the field", x.condition(13, 7, isReal), record, x.count(1) - 1, record);
        dueCause(x, "FIELD of no record", field, t, field, t);
        int inner = x.condition(9, isNumber, field);
        int fields = x.condition(13, 2, x.condition(11, x.condition(9, x.condition(7, 5, 0), field), 0));
        int outer = Due.record(x, 0, 2, Due.list(x, Due.record(x, 0, 6, x.real(1.0)), record));
        dueCause(x, "through FIELD, EACH, ALL, FIELD", fields, outer, isReal, t);
        dueCause(x, "ALL in ALL", x.condition(9, inner, inner), record, isNumber, record);
    }

    private static void dueCause(GraphCheck x, String what, int condition, int node, int dueCondition, int dueNode) {
        Due.no("check: " + what, x.check(condition, node));
        Due.is("condition: " + what, x.cause(NONE, 0), dueCondition);
        Due.is("node: " + what, x.cause(NONE, 1), dueNode);
        int last = x.count(2) - 1;
        Due.is("condition noted: " + what, x.cause(last, 0), dueCondition);
        Due.is("node noted: " + what, x.cause(last, 1), dueNode);
    }

    private static void testCauseOfNone() {
        GraphCheck x = new GraphCheck();
        int n = x.number(1L);
        int isNumber = x.condition(7, 0, 0);
        int field = x.condition(13, 0, isNumber);
        int record = Due.record(x, 0, 0, NONE);
        Due.throwsNoState("a field that is NONE", () -> x.check(field, record));
        Due.is("its condition", x.cause(NONE, 0), isNumber);
        Due.is("its node", x.cause(NONE, 1), NONE);
        x.put(record, 0, n);
        Due.yes("now it holds", x.check(field, record));
        Due.is("the cause is as it was", x.cause(NONE, 1), NONE);
    }

    private static void testWrongCauses() {
        GraphCheck x = new GraphCheck();
        int n = x.number(1L);
        int c = x.condition(7, 2, 0);
        x.rules(true, true, 200);
        x.check(c, n);
        int[] none = {1, -2, 30, Integer.MAX_VALUE, Integer.MIN_VALUE};
        for (int k : none) {
            Due.throwsNoNode("cause(" + k + ", 0)", () -> x.cause(k, 0));
        }
        int[] wrong = {-1, 2, Integer.MAX_VALUE, Integer.MIN_VALUE};
        for (int which : wrong) {
            Due.throwsNoNode("cause(0, " + which + ")", () -> x.cause(0, which));
            Due.throwsNoNode("cause(NONE, " + which + ")", () -> x.cause(NONE, which));
        }
    }

    /** What is asked just after a change is answered by what is so now. */
    private static void testAfterChanges() {
        GraphCheck x = new GraphCheck();
        int list = Due.list(x);
        int other = Due.list(x);
        int equal = x.condition(0, list, 0);
        Due.yes("same, so it holds", x.check(equal, other));
        x.put(list, 0, NONE);
        Due.throwsNoState("a check after a change", () -> x.check(equal, other));
        x.put(other, 0, NONE);
        Due.yes("an assumption after a change", x.assume(equal, other));
        x.put(other, 0, NONE);
        Due.no("another one", x.assume(equal, other));
        x.settle();
        x.put(list, 0, NONE);
        Due.yes("a check after the end", x.check(equal, other));
    }

    private static void testCount() {
        GraphCheck x = new GraphCheck();
        int one = x.number(1L);
        x.number(1L);
        int two = x.number(2L);
        Due.is("kinds: two numbers", x.count(5), 2);
        int a = Due.list(x, one);
        Due.list(x, 1);
        Due.is("kinds: a list more", x.count(5), 3);
        x.put(a, 0, two);
        Due.is("kinds: two lists", x.count(5), 4);
        x.group(5, 1);
        x.group(5, 2);
        Due.is("kinds: two records", x.count(5), 6);
        x.rules(false, false, 200);
        Due.is("kinds: types do not count", x.count(5), 5);
        Due.is("nodes", x.count(0), 7);
        Due.is("conditions", x.count(1), 0);
        int[] others = {-1, 6, -2, Integer.MAX_VALUE, Integer.MIN_VALUE};
        for (int what : others) {
            Due.is("count(" + what + ")", x.count(what), NONE);
        }
    }
}
