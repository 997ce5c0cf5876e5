/**
 * The edges of checks, a test for each of the document's words that name one: THE CAUSE and
 * A CHECK of 'Terms', and promises 17 to 21.
 */
public final class CheckEdgesTest {
    private static final int NONE = GraphCheck.NONE;
    private static final int KIND = 7;
    private static final int NOT = 8;
    private static final int ALL = 9;
    private static final int ANY = 10;
    private static final int EACH = 11;
    private static final int SOME = 12;
    private static final int FIELD = 13;

    public static void main(String[] args) {
        testTheCause();
        testFailures();
        testAssumptions();
        testCheck();
        testAssume();
        testCause();
        testSettle();
        testCount();
        Due.end();
    }

    /** An object with nodes of each kind, 0 to 5, and condition k, 0 to 6, holding for kind k - 1. */
    private static GraphCheck made(boolean soft) {
        GraphCheck x = new GraphCheck();
        Due.oneOfEach(x);
        for (int kind = NONE; kind <= 5; kind++) {
            x.condition(KIND, kind, 0);
        }
        x.rules(true, soft, 200);
        return x;
    }

    /** The condition of made() that a kind holds by. */
    private static int is(int kind) {
        return kind + 1;
    }

    private static void testTheCause() {
        testCauseOfAll();
        testCauseOfEach();
        testCauseOfEachOfOthers();
        testCauseOfField();
        testCauseOfNoField();
        testCauseElse();
        testCauseFarDown();
    }

    private static void dueCause(GraphCheck x, String what, int condition, int node, int ofCondition, int ofNode) {
        Due.no("check: " + what, x.check(condition, node));
        Due.is("condition: " + what, x.cause(NONE, 0), ofCondition);
        Due.is("node: " + what, x.cause(NONE, 1), ofNode);
    }

    private static void testCauseOfAll() {
        Due.words("CAUSE: of ALL the cause of a, if that does not hold, else of b");
        GraphCheck x = made(true);
        dueCause(x, "a does not hold", x.condition(ALL, is(1), is(0)), 0, is(1), 0);
        dueCause(x, "b does not hold", x.condition(ALL, is(0), is(1)), 0, is(1), 0);
        dueCause(x, "neither holds", x.condition(ALL, is(2), is(1)), 0, is(2), 0);
        dueCause(x, "neither holds for NONE", x.condition(ALL, is(2), is(1)), NONE, is(2), NONE);
        int inner = x.condition(ALL, is(0), is(4));
        dueCause(x, "ALL in ALL, a", x.condition(ALL, inner, is(5)), 0, is(4), 0);
        dueCause(x, "ALL in ALL, b", x.condition(ALL, is(0), inner), 0, is(4), 0);
    }

    private static void testCauseOfEach() {
        Due.words("CAUSE: of EACH (of a list or bag) the cause of the first member that does not hold");
        GraphCheck x = made(true);
        int each = x.condition(EACH, is(0), 0);
        dueCause(x, "a list, the only member", each, Due.list(x, 1), is(0), 1);
        dueCause(x, "a list, the first member", each, Due.list(x, 2, 0, 1), is(0), 2);
        dueCause(x, "a list, the last member", each, Due.list(x, 0, 0, 0, 0, 0, 0, 0, 0, 0, 0, 0, 5), is(0), 5);
        dueCause(x, "a bag, the first of two", each, Due.bag(x, 0, 3, 2), is(0), 3);
        dueCause(x, "NONE", each, Due.list(x, 0, NONE, 2), is(0), NONE);
        dueCause(x, "ALL of a member", x.condition(EACH, x.condition(ALL, is(0), is(1)), 0), Due.list(x, 0), is(1), 0);
        int ring = x.group(3, 0);
        x.put(ring, 0, ring);
        dueCause(x, "itself", each, ring, is(0), ring);
    }

    private static void testCauseOfEachOfOthers() {
        Due.words("CAUSE: of EACH of no list or bag: the condition itself, and the node");
        GraphCheck x = made(true);
        int each = x.condition(EACH, is(0), 0);
        for (int node : new int[] {0, 1, 2, 5, NONE}) {
            dueCause(x, "node " + node, each, node, each, node);
        }
    }

    private static void testCauseOfField() {
        Due.words("CAUSE: of FIELD (of a record with the field) the cause of the field");
        GraphCheck x = made(true);
        int record = Due.record(x, 0, 0, 1, 19, NONE);
        dueCause(x, "name 0", x.condition(FIELD, 0, is(0)), record, is(0), 1);
        dueCause(x, "name 19, NONE", x.condition(FIELD, 19, is(0)), record, is(0), NONE);
        int outer = Due.record(x, 0, 3, record);
        int inner = x.condition(FIELD, 0, is(2));
        dueCause(x, "FIELD in FIELD", x.condition(FIELD, 3, inner), outer, is(2), 1);
        x.ignore(0, true);
        dueCause(x, "a name that is ignored", inner, record, is(2), 1);
    }

    private static void testCauseOfNoField() {
        Due.words("CAUSE: of FIELD of no record with the field: the condition itself, and the node");
        GraphCheck x = made(true);
        int field = x.condition(FIELD, 2, is(0));
        for (int node : new int[] {0, 1, 2, 3, 4, 5, NONE}) {
            dueCause(x, "node " + node, field, node, field, node);
        }
        int other = Due.record(x, 0, 1, 0, 3, 0);
        dueCause(x, "other names", field, other, field, other);
        int list = Due.list(x, 1, 1, 1);
        dueCause(x, "a member of that place", field, list, field, list);
    }

    private static void testCauseElse() {
        Due.words("CAUSE: else the condition itself, and the node");
        GraphCheck x = made(true);
        int list = Due.list(x, 0);
        int not = x.condition(NOT, x.condition(EACH, is(0), 0), 0);
        dueCause(x, "NOT", not, list, not, list);
        int any = x.condition(ANY, x.condition(EACH, is(1), 0), x.condition(FIELD, 0, is(0)));
        dueCause(x, "ANY", any, list, any, list);
        int some = x.condition(SOME, is(2), 0);
        dueCause(x, "SOME", some, list, some, list);
        dueCause(x, "SOME of no members", some, 3, some, 3);
        int[] others = {
            x.condition(0, NONE, 0), x.condition(1, 0, 0), x.condition(2, 0, 0), x.condition(3, 0, 0),
            x.condition(4, 2, 0), x.condition(5, 2, 0), x.condition(6, 9, 0), x.condition(14, 4, 0)
        };
        for (int c : others) {
            dueCause(x, "condition " + c, c, 5, c, 5);
        }
    }

    private static void testCauseFarDown() {
        Due.words("CAUSE: 63 conditions down");
        GraphCheck x = new GraphCheck();
        int list = x.group(3, 0);
        x.put(list, 0, list);
        int c = x.condition(KIND, 4, 0);
        while (x.count(1) < 64) {
            c = x.condition(x.count(1) % 2 == 0 ? EACH : ALL, c, c);
        }
        x.rules(true, true, 200);
        dueCause(x, "condition 63", 63, list, 0, list);
    }

    private static void testFailures() {
        testNothingHappensIfItHolds();
        testSoftIsNoted();
        testThirtyAreNoted();
        testWithoutSoftItThrows();
        testThrowingIsNotCounted();
        testSoftAndNotSoft();
    }

    private static void testNothingHappensIfItHolds() {
        Due.words("CHECK: nothing happens if the node holds");
        GraphCheck x = made(true);
        x.check(is(1), 0);
        Due.yes("it holds, soft", x.check(is(0), 0));
        x.rules(true, false, 200);
        Due.yes("it holds, not soft", x.check(is(NONE), NONE));
        Due.is("causes noted", x.count(2), 1);
        Due.is("failures", x.count(3), 1);
        Due.is("the latest failure's condition", x.cause(NONE, 0), is(1));
    }

    private static void testSoftIsNoted() {
        Due.words("CHECK: with SOFT its cause is noted");
        GraphCheck x = made(true);
        int list = Due.list(x, 2);
        Due.no("one", x.check(x.condition(EACH, is(0), 0), list));
        Due.no("another one", x.check(is(5), NONE));
        Due.no("the first one again", x.check(is(0), 2));
        Due.is("causes", x.count(2), 3);
        Due.is("cause 0: condition", x.cause(0, 0), is(0));
        Due.is("cause 0: node", x.cause(0, 1), 2);
        Due.is("cause 1: condition", x.cause(1, 0), is(5));
        Due.is("cause 1: node", x.cause(1, 1), NONE);
        Due.is("cause 2: condition", x.cause(2, 0), is(0));
        Due.throwsNoNode("cause 3", () -> x.cause(3, 0));
    }

    private static void testThirtyAreNoted() {
        Due.words("CHECK: (at most 30; more are not noted, but counted)");
        GraphCheck x = made(true);
        for (int k = 0; k < 29; k++) {
            x.check(is(1), 0);
        }
        Due.no("failure 29", x.check(is(2), 1));
        Due.is("30 are noted", x.count(2), 30);
        Due.is("30 are counted", x.count(3), 30);
        Due.no("failure 30", x.check(is(3), 2));
        Due.is("30 are noted still", x.count(2), 30);
        Due.is("31 are counted", x.count(3), 31);
        Due.is("cause 29: condition", x.cause(29, 0), is(2));
        Due.is("cause 29: node", x.cause(29, 1), 1);
        Due.throwsNoNode("cause 30", () -> x.cause(30, 0));
        Due.is("the latest: condition", x.cause(NONE, 0), is(3));
        Due.is("the latest: node", x.cause(NONE, 1), 2);
        Due.is("cause 0 is as it was", x.cause(0, 0), is(1));
        Due.throwsUnsupported("some failed", () -> x.settle());
        x.check(is(5), 4);
        Due.is("noted from the beginning again", x.cause(0, 1), 4);
    }

    private static void testWithoutSoftItThrows() {
        Due.words("CHECK: .. else it throws");
        GraphCheck x = made(false);
        Due.throwsNoState("a failure", () -> x.check(is(1), 0));
        Due.throwsNoState("another failure", () -> x.check(is(2), NONE));
        Due.yes("no failure", x.check(is(0), 0));
    }

    private static void testThrowingIsNotCounted() {
        Due.words("CHECK: a check that throws is no failure that settle() or count() counts");
        GraphCheck x = made(false);
        x.check(is(0), 0);
        Due.throwsNoState("a failure", () -> x.check(is(1), 0));
        Due.is("causes noted", x.count(2), 0);
        Due.is("failures", x.count(3), 0);
        Due.throwsNoNode("cause 0", () -> x.cause(0, 0));
        Due.is("settle() throws nothing, and one held", x.settle(), 1);
        Due.is("the latest failure: condition", x.cause(NONE, 0), is(1));
        Due.is("the latest failure: node", x.cause(NONE, 1), 0);
    }

    private static void testSoftAndNotSoft() {
        Due.words("CHECK: soft or not is as it is when it fails");
        GraphCheck x = made(true);
        Due.no("soft", x.check(is(1), 0));
        x.rules(true, false, 200);
        Due.throwsNoState("not soft", () -> x.check(is(2), 0));
        Due.is("the soft one is counted", x.count(3), 1);
        Due.is("the soft one is noted", x.cause(0, 0), is(1));
        Due.is("the latest is the other one", x.cause(NONE, 0), is(2));
        Due.throwsUnsupported("the soft one counts for settle(), soft or not", () -> x.settle());
    }

    private static void testAssumptions() {
        testChecksDoNothing();
        testUntilSettle();
        testAssumptionThatHeld();
        testOneIsEnough();
    }

    private static void testChecksDoNothing() {
        Due.words("CHECK: if an ASSUMPTION did not hold since the last settle(), checks do nothing");
        GraphCheck x = made(false);
        x.check(is(0), 0);
        x.assume(is(1), 0);
        Due.yes("not soft, it would throw", x.check(is(1), 0));
        x.rules(true, true, 200);
        Due.yes("soft, it would fail", x.check(is(1), 0));
        Due.yes("it would hold", x.check(is(0), 0));
        Due.is("no failures", x.count(3), 0);
        Due.is("no causes", x.count(2), 0);
        Due.throwsNoNode("no latest failure", () -> x.cause(NONE, 0));
        Due.yes("holds() tells what is so", x.holds(is(0), 0));
        Due.no("holds() tells what is not so", x.holds(is(1), 0));
        Due.is("those that did nothing do not count", x.settle(), 1);
    }

    private static void testUntilSettle() {
        Due.words("CHECK: .. since the last settle()");
        GraphCheck x = made(true);
        x.assume(is(1), 0);
        x.settle();
        Due.no("a check after settle()", x.check(is(1), 0));
        x.assume(is(1), 0);
        Due.yes("a check before the next one", x.check(is(1), 0));
        Due.throwsUnsupported("a settle() that throws", () -> x.settle());
        Due.no("a check after it", x.check(is(1), 0));
    }

    private static void testAssumptionThatHeld() {
        Due.words("CHECK: an assumption that holds stops no checks");
        GraphCheck x = made(true);
        x.assume(is(0), 0);
        Due.no("a check", x.check(is(1), 0));
        Due.throwsNoNode("an assumption that throws is none", () -> x.assume(is(1), 64));
        Due.no("another check", x.check(is(1), 0));
        Due.is("failures", x.count(3), 2);
    }

    private static void testOneIsEnough() {
        Due.words("CHECK: one assumption that did not hold is enough");
        GraphCheck x = made(true);
        x.assume(is(1), 0);
        Due.yes("one that holds", x.assume(is(0), 0));
        Due.yes("a check", x.check(is(1), 0));
        Due.is("it is told still", x.count(4), 1);
        x.assume(is(1), 0);
        Due.is("two are 1", x.count(4), 1);
        x.settle();
        Due.is("both are gone", x.count(4), 0);
    }

    private static void testCheck() {
        testCheckNoSuch();
        testCheckNoSuchWhenIdle();
        testCheckAnswers();
        testCheckFirstException();
        testThrownCause();
    }

    private static void testCheckNoSuch() {
        Due.words("Promise 17: IndexOutOfBoundsException as holds()");
        GraphCheck x = made(true);
        dueNoSuchCheck(x);
        Due.is("failures", x.count(3), 0);
        Due.throwsNoNode("no latest failure", () -> x.cause(NONE, 0));
        Due.is("none held", x.settle(), 0);
    }

    private static void dueNoSuchCheck(GraphCheck x) {
        for (int condition : Due.noConditions(x)) {
            Due.throwsNoNode("check(" + condition + ", 0)", () -> x.check(condition, 0));
            Due.throwsNoNode("check(" + condition + ", NONE)", () -> x.check(condition, NONE));
        }
        for (int node : Due.noNodes(x)) {
            Due.throwsNoNode("check(0, " + node + ")", () -> x.check(0, node));
        }
    }

    private static void testCheckNoSuchWhenIdle() {
        Due.words("Promise 17: .. also if nothing is checked");
        GraphCheck x = made(false);
        x.assume(is(1), 0);
        dueNoSuchCheck(x);
        Due.yes("others do nothing", x.check(is(1), 0));
    }

    private static void testCheckAnswers() {
        Due.words("Promise 17: true (also when it does nothing), or, if it fails with soft, false");
        GraphCheck x = made(true);
        Due.yes("it holds", x.check(is(0), 0));
        Due.yes("NONE holds", x.check(is(NONE), NONE));
        Due.no("it fails", x.check(is(1), 0));
        Due.no("NONE fails", x.check(is(1), NONE));
        x.assume(is(1), 0);
        Due.yes("it does nothing", x.check(is(1), 0));
    }

    private static void testCheckFirstException() {
        Due.words("Promise 17: of several exceptions the one told first is thrown");
        GraphCheck x = made(false);
        Due.throwsNoNode("no such node, and not soft", () -> x.check(is(1), 6));
        Due.throwsNoNode("no such condition, and not soft", () -> x.check(7, 0));
        Due.throwsNoState("both are there", () -> x.check(is(1), 5));
    }

    private static void testThrownCause() {
        Due.words("Promise 17: IllegalStateException if it fails without soft: its cause is what cause(NONE, ..) says");
        GraphCheck x = made(false);
        int each = x.condition(EACH, is(0), 0);
        int list = Due.list(x, 0, 5);
        Due.throwsNoState("a failure", () -> x.check(each, list));
        Due.is("its condition", x.cause(NONE, 0), is(0));
        Due.is("its node", x.cause(NONE, 1), 5);
        Due.throwsNoState("a later one", () -> x.check(is(2), NONE));
        Due.is("its condition", x.cause(NONE, 0), is(2));
        Due.is("its node", x.cause(NONE, 1), NONE);
    }

    private static void testAssume() {
        testAssumeNoSuch();
        testAssumeAnswers();
        testAssumeAfterChanges();
        testAssumeIsNoCheck();
    }

    private static void testAssumeNoSuch() {
        Due.words("Promise 18: IndexOutOfBoundsException as holds()");
        GraphCheck x = made(false);
        for (int idle = 0; idle < 2; idle++) {
            for (int condition : Due.noConditions(x)) {
                Due.throwsNoNode("assume(" + condition + ", 0)", () -> x.assume(condition, 0));
                Due.throwsNoNode("assume(" + condition + ", NONE)", () -> x.assume(condition, NONE));
            }
            for (int node : Due.noNodes(x)) {
                Due.throwsNoNode("assume(0, " + node + ")", () -> x.assume(0, node));
            }
            Due.is("assumptions that did not hold", x.count(4), idle);
            x.assume(is(1), 0);
        }
    }

    private static void testAssumeAnswers() {
        Due.words("Promise 18: an assumption: whether it holds");
        GraphCheck x = made(false);
        Due.yes("it holds", x.assume(is(0), 0));
        Due.yes("NONE holds", x.assume(is(NONE), NONE));
        Due.no("it does not", x.assume(is(1), 0));
        Due.yes("it holds, after one that did not", x.assume(is(0), 0));
        Due.no("NONE does not, after one that did not", x.assume(is(0), NONE));
    }

    private static void testAssumeAfterChanges() {
        Due.words("Promise 18: whether it holds, as it is now");
        GraphCheck x = made(false);
        int equal = x.condition(0, 3, 0);
        int other = x.group(3, 0);
        Due.yes("both lists are empty", x.assume(equal, other));
        x.put(other, 0, NONE);
        Due.no("one is not", x.assume(equal, other));
        x.put(3, 0, NONE);
        Due.yes("both are not", x.assume(equal, other));
    }

    private static void testAssumeIsNoCheck() {
        Due.words("Promise 18: an assumption is no check");
        GraphCheck x = made(true);
        x.assume(is(0), 0);
        x.assume(is(1), 0);
        Due.is("causes", x.count(2), 0);
        Due.is("failures", x.count(3), 0);
        Due.throwsNoNode("no latest failure", () -> x.cause(NONE, 0));
        Due.is("no check held", x.settle(), 0);
    }

    private static void testCause() {
        testCauseNoneSuch();
        testCauseWhich();
        testLatestFailure();
        testCauseIsKept();
    }

    private static void testCauseNoneSuch() {
        Due.words("Promise 19: IndexOutOfBoundsException if there is none such");
        GraphCheck x = made(true);
        for (int k : new int[] {NONE, 0}) {
            Due.throwsNoNode("cause(" + k + ", 0), before all failures", () -> x.cause(k, 0));
            Due.throwsNoNode("cause(" + k + ", 1), before all failures", () -> x.cause(k, 1));
        }
        x.check(is(1), 0);
        for (int k : Due.outside(-2, 1)) {
            Due.throwsNoNode("cause(" + k + ", 0)", () -> x.cause(k, 0));
            Due.throwsNoNode("cause(" + k + ", 1)", () -> x.cause(k, 1));
        }
        Due.is("cause 0", x.cause(0, 0), is(1));
    }

    private static void testCauseWhich() {
        Due.words("Promise 19: .. or which is another one");
        GraphCheck x = made(true);
        x.check(is(1), 2);
        for (int which : Due.outside(-1, 2)) {
            Due.throwsNoNode("cause(0, " + which + ")", () -> x.cause(0, which));
            Due.throwsNoNode("cause(NONE, " + which + ")", () -> x.cause(NONE, which));
        }
        Due.is("which 0: the condition", x.cause(0, 0), is(1));
        Due.is("which 1: the node", x.cause(0, 1), 2);
    }

    private static void testLatestFailure() {
        Due.words("Promise 19: NONE: the latest check that failed, soft or not");
        GraphCheck x = made(true);
        x.check(is(1), 0);
        Due.is("a soft one", x.cause(NONE, 0), is(1));
        x.rules(true, false, 200);
        Due.throwsNoState("one that throws", () -> x.check(is(2), 5));
        Due.is("one that is not soft: condition", x.cause(NONE, 0), is(2));
        Due.is("one that is not soft: node", x.cause(NONE, 1), 5);
        x.rules(true, true, 200);
        x.check(is(3), NONE);
        Due.is("a soft one again: condition", x.cause(NONE, 0), is(3));
        Due.is("a soft one again: node", x.cause(NONE, 1), NONE);
        x.check(is(0), 0);
        x.holds(is(4), 0);
        Due.throwsNoNode("no such node", () -> x.check(is(4), 64));
        x.assume(is(4), 0);
        x.check(is(4), 0);
        Due.is("none of these failed", x.cause(NONE, 0), is(3));
    }

    private static void testCauseIsKept() {
        Due.words("Promise 19: of cause k that was noted: as it was then");
        GraphCheck x = made(true);
        int list = Due.list(x, 0, 1);
        int each = x.condition(EACH, is(0), 0);
        x.check(each, list);
        x.check(x.condition(FIELD, 0, is(0)), 5);
        x.put(5, 0, 0);
        x.rules(false, false, 3);
        Due.is("cause 0: condition", x.cause(0, 0), is(0));
        Due.is("cause 0: node", x.cause(0, 1), 1);
        Due.is("cause 1: condition", x.cause(1, 0), each + 1);
        Due.is("the latest one", x.cause(NONE, 1), 5);
    }

    private static void testSettle() {
        testSettleOfNothing();
        testSettleCounts();
        testSettleForgets();
        testSettleThrows();
        testSettleAfterManyFailures();
    }

    private static void testSettleOfNothing() {
        Due.words("Promise 20: how many held since the last end: none");
        GraphCheck x = made(true);
        Due.is("nothing was checked", x.settle(), 0);
        Due.is("once more", x.settle(), 0);
        x.holds(is(0), 0);
        x.assume(is(0), 0);
        Due.is("no checks", x.settle(), 0);
    }

    private static void testSettleCounts() {
        Due.words("Promise 20: how many held since the last end (those that did nothing do not count)");
        GraphCheck x = made(false);
        x.check(is(0), 0);
        x.check(is(0), 0);
        Due.throwsNoState("one that fails", () -> x.check(is(1), 0));
        x.check(is(NONE), NONE);
        x.assume(is(1), 0);
        x.check(is(0), 0);
        x.check(is(1), 0);
        Due.is("three held, two did nothing", x.settle(), 3);
        Due.is("since then none", x.settle(), 0);
        x.check(is(0), 0);
        Due.is("since then one", x.settle(), 1);
    }

    private static void testSettleForgets() {
        Due.words("Promise 20: causes that were noted, failures and assumptions are gone (the latest failure is told still)");
        GraphCheck x = made(false);
        Due.throwsNoState("a failure", () -> x.check(is(1), 2));
        x.assume(is(1), 0);
        x.settle();
        Due.is("the assumption is gone", x.count(4), 0);
        Due.is("the latest failure: condition", x.cause(NONE, 0), is(1));
        Due.is("the latest failure: node", x.cause(NONE, 1), 2);
        x.settle();
        Due.is("told still after another end", x.cause(NONE, 1), 2);
    }

    private static void testSettleThrows() {
        Due.words("Promise 20: UnsupportedOperationException if some failed softly: then all this is so, too");
        GraphCheck x = made(true);
        x.check(is(0), 0);
        x.check(is(1), 2);
        x.check(is(3), 4);
        x.assume(is(1), 0);
        Due.throwsUnsupported("two failed softly", () -> x.settle());
        Due.is("causes are gone", x.count(2), 0);
        Due.is("failures are gone", x.count(3), 0);
        Due.is("assumptions are gone", x.count(4), 0);
        Due.throwsNoNode("cause 0 is gone", () -> x.cause(0, 0));
        Due.is("the latest failure: condition", x.cause(NONE, 0), is(3));
        Due.is("the latest failure: node", x.cause(NONE, 1), 4);
        Due.is("what held is gone, and nothing is thrown", x.settle(), 0);
        x.check(is(1), 0);
        Due.throwsUnsupported("one failed softly since then", () -> x.settle());
    }

    private static void testSettleAfterManyFailures() {
        Due.words("Promise 20: if some failed softly: more than are noted");
        GraphCheck x = made(true);
        for (int k = 0; k < 100; k++) {
            x.check(is(1), 0);
        }
        Due.is("100 failures", x.count(3), 100);
        Due.is("30 causes", x.count(2), 30);
        Due.throwsUnsupported("they failed", () -> x.settle());
        Due.is("no failures", x.count(3), 0);
        Due.is("no causes", x.count(2), 0);
    }

    private static void testCount() {
        testCountOfAnother();
        testCountOfNodes();
        testCountOfFailures();
        testCountOfKinds();
        testCountOfKindsByRules();
    }

    private static void testCountOfAnother() {
        Due.words("Promise 21: NONE for another what");
        GraphCheck x = made(true);
        for (int what : Due.outside(-1, 6)) {
            Due.is("count(" + what + ")", x.count(what), NONE);
        }
    }

    private static void testCountOfNodes() {
        Due.words("Promise 21: what 0: nodes, 1: conditions");
        GraphCheck x = new GraphCheck();
        Due.is("no nodes", x.count(0), 0);
        Due.is("no conditions", x.count(1), 0);
        Due.fill(x, 64);
        for (int k = 0; k < 64; k++) {
            x.condition(6, k, 0);
        }
        Due.is("64 nodes", x.count(0), 64);
        Due.is("64 conditions", x.count(1), 64);
        Due.throwsNoState("one node more", () -> x.number(0L));
        Due.throwsNoState("one condition more", () -> x.condition(6, 0, 0));
        Due.is("64 nodes still", x.count(0), 64);
        Due.is("64 conditions still", x.count(1), 64);
    }

    private static void testCountOfFailures() {
        Due.words("Promise 21: 2: causes noted, 3: failures since the last settle() that were soft, 4: 1 if an assumption ..");
        GraphCheck x = made(true);
        dueCounts(x, 0, 0, 0);
        x.check(is(1), 0);
        dueCounts(x, 1, 1, 0);
        x.assume(is(0), 0);
        dueCounts(x, 1, 1, 0);
        x.assume(is(1), 0);
        dueCounts(x, 1, 1, 1);
        x.check(is(1), 0);
        dueCounts(x, 1, 1, 1);
        Due.throwsUnsupported("the end", () -> x.settle());
        dueCounts(x, 0, 0, 0);
    }

    private static void dueCounts(GraphCheck x, int causes, int failures, int assumptions) {
        Due.is("causes", x.count(2), causes);
        Due.is("failures", x.count(3), failures);
        Due.is("assumptions", x.count(4), assumptions);
    }

    private static void testCountOfKinds() {
        Due.words("Promise 21: 5: how many kinds of nodes there are, if same ones are one");
        GraphCheck x = new GraphCheck();
        Due.is("no nodes", x.count(5), 0);
        Due.oneOfEach(x);
        Due.is("one of each", x.count(5), 6);
        Due.oneOfEach(x);
        Due.is("two of each", x.count(5), 6);
        x.put(3, 0, NONE);
        Due.is("one list with a member: NONE is no node", x.count(5), 7);
        x.put(9, 0, NONE);
        Due.is("both lists with a member", x.count(5), 6);
        Due.fill(x, 64);
        Due.is("52 numbers, 12 to 63, more", x.count(5), 58);
    }

    private static void testCountOfKindsByRules() {
        Due.words("Promise 21: .. if same ones are one: as types and names count now");
        GraphCheck x = new GraphCheck();
        Due.record(x, 0, 4, NONE);
        Due.record(x, 1, 4, NONE);
        Due.record(x, 0);
        Due.is("three records", x.count(5), 3);
        x.rules(false, false, 200);
        Due.is("types do not count", x.count(5), 2);
        x.ignore(4, true);
        Due.is("names do not count either", x.count(5), 1);
        x.rules(true, false, 200);
        Due.is("types count", x.count(5), 2);
        x.ignore(4, false);
        Due.is("all counts again", x.count(5), 3);
    }
}
