/**
 * The edges of nodes, a test for each of the document's words that name one: those of 'Terms'
 * about nodes, and promises 1 to 9.
 */
public final class NodeEdgesTest {
    private static final int NONE = GraphCheck.NONE;
    private static final int LEAST = Integer.MIN_VALUE;
    private static final int GREATEST = Integer.MAX_VALUE;

    public static void main(String[] args) {
        testNone();
        testTerms();
        testNewObject();
        testMakers();
        testGroup();
        testPut();
        testAppend();
        testIgnore();
        testRules();
        Due.end();
    }

    private static void testNone() {
        Due.words("The constants: NONE = -1: None");
        Due.is("NONE", GraphCheck.NONE, -1);
    }

    private static void testTerms() {
        testNodesOneByOne();
        testNumberIsLong();
        testRealIsDouble();
        testTextHolds40();
        testTextHolds1To255();
        testTypes();
        testNames();
        testTwelveMembers();
        testMembersAreNodesOrNone();
        testMemberOfItself();
    }

    private static void testNodesOneByOne() {
        Due.words("NODES 0 .. 63 are made one by one");
        GraphCheck x = new GraphCheck();
        int[] nodes = Due.oneOfEach(x);
        for (int k = 0; k < 6; k++) {
            Due.is("node made after " + k + " others", nodes[k], k);
        }
        Due.throwsNoArgument("a group that is refused", () -> x.group(6, 0));
        Due.is("the next node: a group that was refused takes no number", x.number(0L), 6);
        Due.fill(x, 63);
        Due.is("the last node", x.text(0L), 63);
        Due.yes("node 63 is there", x.same(63, 63));
        Due.yes("node 0 is there", x.same(0, 0));
        Due.throwsNoNode("there is no node 64", () -> x.same(64, 64));
    }

    private static void testNumberIsLong() {
        Due.words("a NUMBER (a long)");
        GraphCheck x = new GraphCheck();
        long[] values = {Long.MIN_VALUE, Long.MIN_VALUE + 1, -1L, 0L, 1L << 32, Long.MAX_VALUE - 1, Long.MAX_VALUE};
        for (long v : values) {
            Due.text("its digits", Due.shown(x, x.number(v)), Long.toString(v));
        }
        Due.is("no two of them are same", x.count(5), values.length);
    }

    private static void testRealIsDouble() {
        Due.words("a REAL (a double)");
        GraphCheck x = new GraphCheck();
        double big = 562949953421312.0;
        int a = x.real(big);
        Due.no("no digit is lost", x.same(a, x.real(big + 0.125)));
        Due.yes("the same double", x.same(a, x.real(562949953421312.0)));
    }

    private static void testTextHolds40() {
        Due.words("a TEXT (at most 40 characters ..)");
        GraphCheck x = new GraphCheck();
        int a = Due.text(x, "x".repeat(39) + "a");
        int b = Due.text(x, "x".repeat(39) + "b");
        Due.text("40 characters", Due.shown(x, a), "\"" + "x".repeat(39) + "a\"");
        Due.no("character 39 is one of them", x.same(a, b));
        Due.no("there is no character 40", x.append(a, 'c'));
        int next = x.text('q');
        Due.text("a text after a full one has its own", Due.shown(x, next), "\"q\"");
    }

    private static void testTextHolds1To255() {
        Due.words("a TEXT (.. characters 1 .. 255)");
        GraphCheck x = new GraphCheck();
        int[] letters = {1, 127, 128, 255};
        for (int letter : letters) {
            int node = x.text(letter);
            Due.is("a text of character " + letter, x.shown(node, NONE), 3);
            Due.is("its character", x.shown(node, 1), letter);
        }
        Due.is("all are different", x.count(5), 4);
    }

    private static void testTypes() {
        Due.words("a RECORD of a TYPE 0 .. 9");
        GraphCheck x = new GraphCheck();
        Due.text("type 9, of node 0", Due.shown(x, x.group(5, 9)), "T9()");
        Due.text("type 0", Due.shown(x, x.group(5, 0)), "T0()");
        Due.no("types 9 and 0", x.same(0, 1));
        for (int type : Due.outside(-1, 10)) {
            Due.throwsNoArgument("type " + type, () -> x.group(5, type));
        }
    }

    private static void testNames() {
        Due.words("FIELDS of NAMES 0 .. 19");
        GraphCheck x = new GraphCheck();
        int first = x.group(5, 0);
        int second = x.group(5, 0);
        Due.yes("name 19", x.put(first, 19, NONE));
        Due.yes("name 0", x.put(second, 0, NONE));
        Due.text("name 19 of the first", Due.shown(x, first), "T0(n19=none)");
        Due.text("name 0 of the second", Due.shown(x, second), "T0(n0=none)");
        for (int name : Due.outside(-1, 20)) {
            Due.no("name " + name, x.put(first, name, NONE));
        }
    }

    private static void testTwelveMembers() {
        Due.words("lists and bags have MEMBERS, at most 12");
        GraphCheck x = new GraphCheck();
        int one = x.number(1L);
        for (int kind = 3; kind <= 4; kind++) {
            int group = x.group(kind, 0);
            int next = x.group(kind, 0);
            for (int k = 0; k < 12; k++) {
                Due.yes("member " + k, x.put(group, 0, k == 11 ? NONE : one));
            }
            Due.no("member 12", x.put(group, 0, one));
            Due.no("NONE as member 12", x.put(group, 0, NONE));
            Due.yes("it has 12", x.holds(x.condition(6, 12, 0), group));
            Due.yes("the next group has none", x.holds(x.condition(6, 0, 0), next));
        }
    }

    private static void testMembersAreNodesOrNone() {
        Due.words("members and fields are nodes, or NONE");
        GraphCheck x = new GraphCheck();
        int[] nodes = Due.oneOfEach(x);
        int list = Due.list(x, nodes);
        x.put(list, 0, NONE);
        Due.text("members of each kind", Due.shown(x, list), "[0, 0.000, \"\", [], {}, T0(), none]");
        int record = Due.record(x, 1, 0, 0, 1, 1, 2, 2, 3, 3, 4, 4, 5, 5, 6, NONE);
        Due.text("fields of each kind", Due.shown(x, record),
                "T1(n0=0, n1=0.000, n2=\"\", n3=[], n4={}, n5=T0(), n6=none)");
    }

    private static void testMemberOfItself() {
        Due.words("a group may be a member of itself");
        GraphCheck x = new GraphCheck();
        for (int kind = 3; kind <= 5; kind++) {
            int group = x.group(kind, 0);
            Due.yes("group of kind " + kind, x.put(group, 0, group));
        }
        Due.text("a list", Due.shown(x, 0), "[^1]");
        Due.text("a bag", Due.shown(x, 1), "{^1}");
        Due.text("a record", Due.shown(x, 2), "T0(n0=^1)");
        for (int k = 1; k < 12; k++) {
            Due.yes("more than once", x.put(0, 0, 0));
        }
        Due.yes("a list of itself alone is same as one of it, once", x.same(1, Due.bag(x, 1)));
    }

    private static void testNewObject() {
        testNoNodesAtFirst();
        testNoConditionsAtFirst();
        testNothingHappenedAtFirst();
        testNoNameIsIgnoredAtFirst();
        testTypesCountAtFirst();
        testNotSoftAtFirst();
        testLimitAtFirst();
        testNothingIsShared();
    }

    private static void testNoNodesAtFirst() {
        Due.words("Promise 1: no nodes");
        GraphCheck x = new GraphCheck();
        Due.is("nodes", x.count(0), 0);
        Due.is("kinds of nodes", x.count(5), 0);
        Due.throwsNoNode("same(0, NONE)", () -> x.same(0, NONE));
        Due.throwsNoNode("shown(0, NONE)", () -> x.shown(0, NONE));
        Due.no("put(0, 0, NONE)", x.put(0, 0, NONE));
        Due.no("append(0, 0)", x.append(0, 0L));
        Due.throwsNoArgument("way(0, 0)", () -> x.way(0, 0));
        Due.throwsNoArgument("condition(1, 0, 0)", () -> x.condition(1, 0, 0));
        Due.yes("NONE is there", x.same(NONE, NONE));
        Due.is("NONE is shown", x.shown(NONE, NONE), 4);
    }

    private static void testNoConditionsAtFirst() {
        Due.words("Promise 1: no conditions");
        GraphCheck x = new GraphCheck();
        Due.is("conditions", x.count(1), 0);
        Due.throwsNoNode("holds(0, NONE)", () -> x.holds(0, NONE));
        Due.throwsNoNode("check(0, NONE)", () -> x.check(0, NONE));
        Due.throwsNoNode("assume(0, NONE)", () -> x.assume(0, NONE));
        Due.throwsNoArgument("condition(8, 0, 0)", () -> x.condition(8, 0, 0));
    }

    private static void testNothingHappenedAtFirst() {
        Due.words("Promise 1: a new object");
        GraphCheck x = new GraphCheck();
        for (int k = -2; k <= 1; k++) {
            int at = k;
            Due.throwsNoNode("step(" + k + ")", () -> x.step(at));
            Due.throwsNoNode("cause(" + k + ", 0)", () -> x.cause(at, 0));
            Due.throwsNoNode("cause(" + k + ", 1)", () -> x.cause(at, 1));
        }
        for (int what = 2; what <= 4; what++) {
            Due.is("count(" + what + ")", x.count(what), 0);
        }
        Due.is("settle()", x.settle(), 0);
    }

    private static void testNoNameIsIgnoredAtFirst() {
        Due.words("Promise 1: no name is ignored");
        GraphCheck x = new GraphCheck();
        int without = x.group(5, 0);
        for (int name = 0; name < 20; name++) {
            Due.no("name " + name, x.same(without, Due.record(x, 0, name, NONE)));
        }
    }

    private static void testTypesCountAtFirst() {
        Due.words("Promise 1: types count");
        GraphCheck x = new GraphCheck();
        Due.no("types 0 and 9", x.same(x.group(5, 0), x.group(5, 9)));
    }

    private static void testNotSoftAtFirst() {
        Due.words("Promise 1: not soft");
        GraphCheck x = new GraphCheck();
        int c = x.condition(7, 0, 0);
        Due.throwsNoState("a check that fails", () -> x.check(c, NONE));
        Due.is("soft failures", x.count(3), 0);
    }

    private static void testLimitAtFirst() {
        Due.words("Promise 1: LIMIT 200");
        GraphCheck x = new GraphCheck();
        int just = lettersShown(x, 200);
        Due.is("200 characters", x.shown(just, NONE), 200);
        Due.is("the last one", x.shown(just, 199), ']');
        int more = lettersShown(x, 201);
        Due.is("201 characters are cut to 200", x.shown(more, NONE), 200);
        Due.is("the last one", x.shown(more, 199), '.');
        Due.is("character 197", x.shown(more, 197), '.');
        Due.is("character 196", x.shown(more, 196), 'x');
    }

    /** A list that would be shown as so many characters: five texts, of which the last is longest. */
    private static int lettersShown(GraphCheck x, int size) {
        int text = Due.text(x, "x".repeat(36));
        int last = Due.text(x, "x".repeat(size - 2 - 8 - 4 * 38 - 2));
        return Due.list(x, text, text, text, text, last);
    }

    private static void testNothingIsShared() {
        Due.words("Promise 1: a new object is new");
        GraphCheck used = new GraphCheck();
        Due.oneOfEach(used);
        int c = used.condition(7, 0, 0);
        used.ignore(4, true);
        used.rules(false, true, 3);
        used.check(c, NONE);
        used.assume(c, NONE);
        used.difference(0, 1);
        testNoNodesAtFirst();
        testNoConditionsAtFirst();
        testNothingHappenedAtFirst();
        testNoNameIsIgnoredAtFirst();
        testTypesCountAtFirst();
        testNotSoftAtFirst();
        testLimitAtFirst();
        Due.words("Promise 1: a new object is new");
        Due.is("the used one is as it was", used.count(0), 6);
        Due.is("its assumption, too", used.count(4), 1);
    }

    private static void testMakers() {
        testNumberRoom();
        testRealRoom();
        testRealEdges();
        testTextRoom();
        testTextBytes();
    }

    private static void testNumberRoom() {
        Due.words("Promise 2: IllegalStateException if there are 64 nodes");
        GraphCheck x = new GraphCheck();
        Due.fill(x, 63);
        Due.is("with 63 nodes", x.number(Long.MIN_VALUE), 63);
        Due.throwsNoState("with 64 nodes", () -> x.number(5L));
        Due.text("node 63 is as it was", Due.shown(x, 63), "-9223372036854775808");
        Due.is("nodes", x.count(0), 64);
    }

    private static void testRealRoom() {
        Due.words("Promise 3: IllegalStateException if there are 64 nodes");
        GraphCheck x = new GraphCheck();
        Due.fill(x, 63);
        Due.is("with 63 nodes", x.real(-0.125), 63);
        Due.throwsNoState("with 64 nodes", () -> x.real(5.0));
        Due.text("node 63 is as it was", Due.shown(x, 63), "-0.125");
        Due.is("nodes", x.count(0), 64);
    }

    private static void testRealEdges() {
        Due.words("Promise 3: a real, a multiple of 0.125 between -2^60 and 2^60 (both out)");
        GraphCheck x = new GraphCheck();
        double greatest = 1152921504606846976.0 - 128.0;
        Due.text("the greatest", Due.shown(x, x.real(greatest)), "1152921504606846848.000");
        Due.text("the least", Due.shown(x, x.real(-greatest)), "-1152921504606846848.000");
        Due.text("the least above 0", Due.shown(x, x.real(0.125)), "0.125");
        Due.text("the greatest below 0", Due.shown(x, x.real(-0.125)), "-0.125");
        Due.text("0", Due.shown(x, x.real(0.0)), "0.000");
    }

    private static void testTextRoom() {
        Due.words("Promise 4: IllegalStateException if there are 64 nodes");
        GraphCheck x = new GraphCheck();
        Due.fill(x, 63);
        Due.is("with 63 nodes", x.text('a'), 63);
        Due.throwsNoState("with 64 nodes", () -> x.text('b'));
        Due.text("node 63 is as it was", Due.shown(x, 63), "\"a\"");
        Due.is("nodes", x.count(0), 64);
    }

    private static void testTextBytes() {
        Due.words("Promise 4: the bytes of a long, the highest first, those that are 0 left out");
        GraphCheck x = new GraphCheck();
        dueBytes(x, 0L, "");
        dueBytes(x, 1L, "\u0001");
        dueBytes(x, -1L, "\u00ff".repeat(8));
        dueBytes(x, Long.MIN_VALUE, "\u0080");
        dueBytes(x, Long.MAX_VALUE, "\u007f" + "\u00ff".repeat(7));
        dueBytes(x, 0x4100000000000000L, "A");
        dueBytes(x, 0x4100000000000042L, "AB");
        dueBytes(x, 0x0042004100430044L, "BACD");
        dueBytes(x, 0x6867666564636261L, "hgfedcba");
        dueBytes(x, 0xff00L, "\u00ff");
    }

    private static void dueBytes(GraphCheck x, long bytes, String want) {
        Due.text("bytes " + Long.toHexString(bytes), Due.shown(x, x.text(bytes)), "\"" + want + "\"");
    }

    private static void testGroup() {
        testGroupKinds();
        testTypeOfOthers();
        testGroupRoom();
        testGroupFirstException();
        testGroupWithoutParts();
    }

    private static void testGroupKinds() {
        Due.words("Promise 5: IllegalArgumentException if there is no such kind");
        GraphCheck x = new GraphCheck();
        int[] kinds = {0, 1, 2, 6, -1, -3, LEAST, GREATEST, 259, 3 + (1 << 16)};
        for (int kind : kinds) {
            Due.throwsNoArgument("kind " + kind, () -> x.group(kind, 0));
        }
        Due.is("nodes", x.count(0), 0);
    }

    private static void testTypeOfOthers() {
        Due.words("Promise 5: .. or, of a record, type");
        GraphCheck x = new GraphCheck();
        for (int type : Due.outside(-1, 10)) {
            Due.throwsNoArgument("a record of type " + type, () -> x.group(5, type));
            Due.is("a list's type is no matter", x.group(3, type), x.count(0) - 1);
            Due.is("a bag's type is no matter", x.group(4, type), x.count(0) - 1);
        }
        Due.is("lists of one kind, bags of one kind", x.count(5), 2);
    }

    private static void testGroupRoom() {
        Due.words("Promise 5: IllegalStateException if there are 64 nodes");
        GraphCheck x = new GraphCheck();
        Due.fill(x, 63);
        Due.is("with 63 nodes", x.group(5, 9), 63);
        for (int kind = 3; kind <= 5; kind++) {
            int of = kind;
            Due.throwsNoState("kind " + kind + " with 64 nodes", () -> x.group(of, 0));
        }
        Due.text("node 63 is as it was", Due.shown(x, 63), "T9()");
        Due.is("nodes", x.count(0), 64);
    }

    private static void testGroupFirstException() {
        Due.words("Promise 5: of several exceptions the one told first is thrown");
        GraphCheck x = new GraphCheck();
        Due.fill(x, 64);
        Due.throwsNoArgument("no such kind, and 64 nodes", () -> x.group(2, 0));
        Due.throwsNoArgument("no such type, and 64 nodes", () -> x.group(5, 10));
        Due.throwsNoState("a list of no type, and 64 nodes", () -> x.group(3, 10));
    }

    private static void testGroupWithoutParts() {
        Due.words("Promise 5: without members or fields");
        GraphCheck x = new GraphCheck();
        int empty = x.condition(6, 0, 0);
        for (int kind = 3; kind <= 5; kind++) {
            Due.yes("kind " + kind, x.holds(empty, x.group(kind, 0)));
        }
    }

    private static void testPut() {
        testNameOfMembers();
        testFieldInPlace();
        testPutNoNode();
        testPutNoGroup();
        testPutNoValue();
        testPutNoName();
        testPutTwelve();
        testTwentyFields();
        testPutFalseChangesNothing();
    }

    private static void testNameOfMembers() {
        Due.words("Promise 6: (name is not looked at)");
        GraphCheck x = new GraphCheck();
        int list = x.group(3, 0);
        int bag = x.group(4, 0);
        for (int name : Due.outside(-1, 20)) {
            Due.yes("a list, name " + name, x.put(list, name, NONE));
            Due.yes("a bag, name " + name, x.put(bag, name, NONE));
        }
        Due.yes("a name that there was", x.put(list, 0, bag) && x.put(list, 0, list));
        Due.text("all are members", Due.shown(x, list),
                "[none, none, none, none, none, {none, none, none, none, none}, ^1]");
    }

    private static void testFieldInPlace() {
        Due.words("Promise 6: a record a field, in place of the one of that name");
        GraphCheck x = new GraphCheck();
        int one = x.number(1L);
        int record = Due.record(x, 0, 0, one, 1, one, 19, one);
        Due.yes("name 19 anew", x.put(record, 19, NONE));
        Due.yes("name 0 anew", x.put(record, 0, record));
        Due.text("the others are as they were", Due.shown(x, record), "T0(n0=^1, n1=1, n19=none)");
        Due.yes("there are three still", x.holds(x.condition(6, 3, 0), record));
        Due.yes("NONE in place of NONE", x.put(record, 19, NONE));
        Due.yes("a number in place of NONE", x.put(record, 19, one));
        Due.text("name 19 is a number again", Due.shown(x, record), "T0(n0=^1, n1=1, n19=1)");
    }

    private static void testPutNoNode() {
        Due.words("Promise 6: false if there is no such node");
        GraphCheck x = new GraphCheck();
        Due.oneOfEach(x);
        Due.no("put into NONE", x.put(NONE, 0, NONE));
        for (int node : Due.noNodes(x)) {
            Due.no("put into " + node, x.put(node, 0, NONE));
        }
    }

    private static void testPutNoGroup() {
        Due.words("Promise 6: .. it is no group");
        GraphCheck x = new GraphCheck();
        Due.oneOfEach(x);
        for (int kind = 0; kind <= 2; kind++) {
            Due.no("put into kind " + kind, x.put(kind, 0, NONE));
        }
    }

    private static void testPutNoValue() {
        Due.words("Promise 6: .. there is no such value (NONE is one)");
        GraphCheck x = new GraphCheck();
        for (int kind = 3; kind <= 5; kind++) {
            int group = x.group(kind, 0);
            for (int value : Due.noNodes(x)) {
                Due.no("kind " + kind + ", value " + value, x.put(group, 0, value));
            }
            Due.yes("kind " + kind + ", the greatest node", x.put(group, 0, group));
            Due.yes("kind " + kind + ", the least node", x.put(group, 1, 0));
            Due.yes("kind " + kind + ", NONE", x.put(group, 2, NONE));
        }
        Due.text("what is put into the last", Due.shown(x, 2), "T0(n0=^1, n1=[^1, ^1, none], n2=none)");
    }

    private static void testPutNoName() {
        Due.words("Promise 6: .. the name is none");
        GraphCheck x = new GraphCheck();
        int record = x.group(5, 0);
        int next = x.group(5, 0);
        for (int name : Due.outside(-1, 20)) {
            Due.no("name " + name, x.put(record, name, NONE));
            Due.no("name " + name + " of the next one", x.put(next, name, NONE));
        }
        Due.text("no field", Due.shown(x, record), "T0()");
        Due.text("no field of the next one", Due.shown(x, next), "T0()");
    }

    private static void testPutTwelve() {
        Due.words("Promise 6: .. or there are 12 members");
        GraphCheck x = new GraphCheck();
        int list = x.group(3, 0);
        int bag = x.group(4, 0);
        for (int k = 0; k < 12; k++) {
            Due.yes("member " + k + " of the list", x.put(list, k, k == 0 ? bag : NONE));
            Due.yes("member " + k + " of the bag", x.put(bag, k, NONE));
        }
        for (int again = 0; again < 2; again++) {
            Due.no("member 12 of the list", x.put(list, again, bag));
            Due.no("member 12 of the bag", x.put(bag, again, list));
        }
        String none = "none" + ", none".repeat(10);
        Due.text("they are as they were", Due.shown(x, list), "[{none, " + none + "}, " + none + "]");
    }

    private static void testTwentyFields() {
        Due.words("Promise 6: a record has fields, no members: it may have 20");
        GraphCheck x = new GraphCheck();
        int record = x.group(5, 0);
        int next = x.group(5, 0);
        for (int name = 19; name >= 0; name--) {
            Due.yes("field " + name, x.put(record, name, NONE));
        }
        Due.yes("one of 20 anew", x.put(record, 11, record));
        Due.yes("it has 20", x.holds(x.condition(6, 20, 0), record));
        Due.text("the next record has none", Due.shown(x, next), "T0()");
    }

    private static void testPutFalseChangesNothing() {
        Due.words("Promise 6: what answers false changes nothing");
        GraphCheck x = new GraphCheck();
        int one = x.number(1L);
        int list = Due.list(x, one);
        int record = Due.record(x, 0, 0, one);
        Due.no("a value that there is not", x.put(list, 0, 3));
        Due.no("a field that there is not", x.put(record, 0, 3));
        Due.no("a name that there is not", x.put(record, 20, NONE));
        Due.text("the list", Due.shown(x, list), "[1]");
        Due.text("the record", Due.shown(x, record), "T0(n0=1)");
        Due.yes("its size", x.holds(x.condition(6, 1, 0), record));
    }

    private static void testAppend() {
        testAppendFalse();
        testAppendTo40();
        testAppendBytes();
    }

    private static void testAppendFalse() {
        Due.words("Promise 7: false if it is none");
        GraphCheck x = new GraphCheck();
        int[] nodes = Due.oneOfEach(x);
        for (int node : nodes) {
            Due.is("append to kind " + node, x.append(node, 'a') ? 1 : 0, node == 2 ? 1 : 0);
        }
        Due.no("append to NONE", x.append(NONE, 0L));
        for (int node : Due.noNodes(x)) {
            Due.no("append to " + node, x.append(node, 'a'));
            Due.no("append nothing to " + node, x.append(node, 0L));
        }
    }

    private static void testAppendTo40() {
        Due.words("Promise 7: .. or would have more than 40");
        GraphCheck x = new GraphCheck();
        int text = Due.text(x, "x".repeat(33));
        int next = x.text('n');
        Due.no("33 and 8", x.append(text, Due.bytes("abcdefgh")));
        Due.is("33 still", x.shown(text, NONE), 35);
        Due.yes("33 and 6", x.append(text, Due.bytes("abcdef")));
        Due.no("39 and 2", x.append(text, Due.bytes("gh")));
        Due.no("39 and 2, 0 between", x.append(text, 0x6700000000000068L));
        Due.yes("39 and 1, 0 after it", x.append(text, 0x6700000000000000L));
        Due.no("40 and 1", x.append(text, 'h'));
        Due.no("40 and character 1", x.append(text, 1L));
        Due.no("40 and 8", x.append(text, -1L));
        Due.yes("40 and none", x.append(text, 0L));
        Due.text("these 40", Due.shown(x, text), "\"" + "x".repeat(33) + "abcdefg\"");
        Due.text("the next text", Due.shown(x, next), "\"n\"");
    }

    private static void testAppendBytes() {
        Due.words("Promise 7: more characters, as text() says");
        GraphCheck x = new GraphCheck();
        int text = x.text(0L);
        Due.yes("no byte", x.append(text, 0L));
        Due.yes("the highest byte alone", x.append(text, Long.MIN_VALUE));
        Due.yes("the lowest byte alone", x.append(text, 1L));
        Due.yes("bytes with 0 between", x.append(text, 0x00ff004200430000L));
        Due.text("the highest first, 0 left out", Due.shown(x, text), "\"\u0080\u0001\u00ffBC\"");
    }

    private static void testIgnore() {
        testIgnoreNoName();
        testIgnoreOrNot();
    }

    private static void testIgnoreNoName() {
        Due.words("Promise 8: false if there is no such name");
        GraphCheck x = new GraphCheck();
        for (int name : Due.outside(-1, 20)) {
            Due.no("ignore " + name, x.ignore(name, true));
            Due.no("do not ignore " + name, x.ignore(name, false));
        }
        int without = x.group(5, 0);
        for (int name = 0; name < 20; name++) {
            Due.no("name " + name + " is not ignored", x.same(without, Due.record(x, 0, name, NONE)));
        }
    }

    private static void testIgnoreOrNot() {
        Due.words("Promise 8: a name is ignored from now on, or not: true");
        GraphCheck x = new GraphCheck();
        int without = x.group(5, 0);
        for (int name = 0; name < 20; name += 19) {
            int with = Due.record(x, 0, name, NONE);
            Due.yes("name " + name + ", not ignored yet, not ignored", x.ignore(name, false));
            Due.no("not ignored", x.same(without, with));
            Due.yes("name " + name, x.ignore(name, true));
            Due.yes("ignored", x.same(without, with));
            Due.yes("name " + name + " once more", x.ignore(name, true));
            Due.yes("ignored still", x.same(without, with));
            Due.yes("name " + name + " no more", x.ignore(name, false));
            Due.no("not ignored any more", x.same(without, with));
        }
    }

    private static void testRules() {
        testLimits();
        testNoLimits();
        testRulesRefused();
    }

    private static void testLimits() {
        Due.words("Promise 9: what LIMIT is: true");
        GraphCheck x = new GraphCheck();
        int text = x.text(Due.bytes("abcd"));
        Due.yes("limit 3", x.rules(true, false, 3));
        Due.text("3 characters", Due.shown(x, text), "...");
        Due.yes("limit 1000", x.rules(true, false, 1000));
        Due.text("6 characters", Due.shown(x, text), "\"abcd\"");
    }

    private static void testNoLimits() {
        Due.words("Promise 9: false if limit is not 3 .. 1000");
        GraphCheck x = new GraphCheck();
        int[] limits = {2, 1001, 0, -1, -3, LEAST, GREATEST, 3 + (1 << 16)};
        for (int limit : limits) {
            Due.no("limit " + limit, x.rules(true, false, limit));
        }
    }

    private static void testRulesRefused() {
        Due.words("Promise 9: what answers false changes nothing");
        GraphCheck x = new GraphCheck();
        int a = x.group(5, 0);
        int b = x.group(5, 1);
        int c = x.condition(7, 0, 0);
        int text = x.text(Due.bytes("abcd"));
        x.rules(false, true, 4);
        Due.no("limit 2", x.rules(true, false, 2));
        Due.no("limit 1001", x.rules(true, false, 1001));
        Due.yes("types do not count still", x.same(a, b));
        Due.no("failures are soft still", x.check(c, a));
        Due.is("the limit is 4 still", x.shown(text, NONE), 4);
        x.rules(true, false, 5);
        Due.no("limit 2", x.rules(false, true, 2));
        Due.no("types count still", x.same(a, b));
        Due.throwsNoState("failures are not soft still", () -> x.check(c, a));
        Due.is("the limit is 5 still", x.shown(text, NONE), 5);
    }
}
