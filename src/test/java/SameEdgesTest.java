/**
 * The edges of what is same and of differences, a test for each of the document's words that
 * name one: SAME, REASON and THE DIFFERENCE of 'Terms', and promises 10 to 12.
 */
public final class SameEdgesTest {
    private static final int NONE = GraphCheck.NONE;

    public static void main(String[] args) {
        testSame();
        testReasons();
        testDifference();
        testStep();
        Due.end();
    }

    private static void testSame() {
        testNoneAlone();
        testKindsAreNeverSame();
        testValues();
        testAllCharacters();
        testAsManyMembers();
        testPlaceByPlace();
        testBagsAsMany();
        testBagsInPairs();
        testTypesIfTheyCount();
        testFieldsOfBoth();
        testIgnoredFields();
        testGreatest();
        testGreatestIsNotTooGreat();
        testFarApart();
        testAfterEachChange();
        testSameOfNoNode();
    }

    private static void testNoneAlone() {
        Due.words("SAME: NONE is same as NONE alone");
        GraphCheck x = new GraphCheck();
        Due.yes("NONE and NONE", x.same(NONE, NONE));
        for (int node : Due.oneOfEach(x)) {
            Due.no("NONE and kind " + node, x.same(NONE, node));
            Due.no("kind " + node + " and NONE", x.same(node, NONE));
        }
    }

    private static void testKindsAreNeverSame() {
        Due.words("SAME: nodes of different kinds are never same");
        GraphCheck x = new GraphCheck();
        int[] some = Due.oneOfEach(x);
        int[] others = Due.oneOfEach(x);
        for (int a = 0; a < 6; a++) {
            for (int b = 0; b < 6; b++) {
                Due.is("kinds " + a + " and " + b, x.same(some[a], others[b]) ? 1 : 0, a == b ? 1 : 0);
            }
        }
    }

    private static void testValues() {
        Due.words("SAME: numbers, reals: the values are equal (0.0 is -0.0)");
        GraphCheck x = new GraphCheck();
        Due.yes("0.0 and -0.0", x.same(x.real(0.0), x.real(-0.0)));
        Due.no("0.0 and 0.125", x.same(0, x.real(0.125)));
        Due.no("0.125 and -0.125", x.same(2, x.real(-0.125)));
        int max = x.number(Long.MAX_VALUE);
        Due.yes("MAX and MAX", x.same(max, x.number(Long.MAX_VALUE)));
        Due.no("MAX and MAX - 1, equal as doubles", x.same(max, x.number(Long.MAX_VALUE - 1)));
        Due.no("MAX and MIN", x.same(max, x.number(Long.MIN_VALUE)));
        Due.no("MAX and -1, equal as ints", x.same(max, x.number(-1L)));
        Due.no("0 and 2^32, equal as ints", x.same(x.number(0L), x.number(1L << 32)));
        double great = 1152921504606846976.0 - 128.0;
        Due.no("the greatest and the least real", x.same(x.real(great), x.real(-great)));
    }

    private static void testAllCharacters() {
        Due.words("SAME: texts: all characters are");
        GraphCheck x = new GraphCheck();
        String most = "m".repeat(38);
        int text = Due.text(x, "a" + most + "z");
        Due.yes("all 40", x.same(text, Due.text(x, "a" + most + "z")));
        Due.no("all but the last", x.same(text, Due.text(x, "a" + most + "y")));
        Due.no("all but the first", x.same(text, Due.text(x, "b" + most + "z")));
        int before = Due.text(x, "a" + most);
        Due.no("a text and its first 39", x.same(text, before));
        Due.no("the first 39 and the text", x.same(before, text));
        int empty = x.text(0L);
        Due.yes("no characters", x.same(empty, x.text(0L)));
        Due.no("none and one", x.same(empty, x.text(1L)));
        Due.no("characters 127 and 255", x.same(x.text(127L), x.text(255L)));
    }

    private static void testAsManyMembers() {
        Due.words("SAME: lists: as many members ..");
        GraphCheck x = new GraphCheck();
        int empty = x.group(3, 0);
        Due.yes("no members", x.same(empty, x.group(3, 0)));
        Due.no("none and one, NONE", x.same(empty, Due.list(x, NONE)));
        Due.no("one, NONE, and none", x.same(Due.list(x, NONE), empty));
        int eleven = Due.list(x, new int[] {0, 0, 0, 0, 0, 0, 0, 0, 0, 0, 0});
        int twelve = Due.list(x, new int[] {0, 0, 0, 0, 0, 0, 0, 0, 0, 0, 0, 0});
        Due.no("eleven and twelve", x.same(eleven, twelve));
        x.put(eleven, 0, 1);
        Due.yes("twelve and twelve", x.same(eleven, twelve));
    }

    private static void testPlaceByPlace() {
        Due.words("SAME: lists: .. same place by place");
        GraphCheck x = new GraphCheck();
        int one = x.number(1L);
        int two = x.number(2L);
        int list = Due.list(x, one, one, one, one, one, one, one, one, one, one, one, two);
        Due.no("all but place 11", x.same(list, Due.list(x, one, one, one, one, one, one, one, one, one, one, one, one)));
        Due.no("all but places 10 and 11", x.same(list,
                Due.list(x, one, one, one, one, one, one, one, one, one, one, two, one)));
        Due.no("all but place 0", x.same(list, Due.list(x, two, one, one, one, one, one, one, one, one, one, one, two)));
        int same = Due.list(x, one, one, one, one, one, one, one, one, one, one, one, x.number(2L));
        Due.yes("all twelve places", x.same(list, same));
        Due.no("NONE in a place", x.same(Due.list(x, NONE), Due.list(x, one)));
        Due.yes("NONE in the same place", x.same(Due.list(x, one, NONE), Due.list(x, one, NONE)));
    }

    private static void testBagsAsMany() {
        Due.words("SAME: bags: as many members ..");
        GraphCheck x = new GraphCheck();
        int one = x.number(1L);
        Due.yes("no members", x.same(x.group(4, 0), x.group(4, 0)));
        Due.no("none and one, NONE", x.same(x.group(4, 0), Due.bag(x, NONE)));
        Due.no("one and two", x.same(Due.bag(x, one), Due.bag(x, one, one)));
        Due.no("two and one", x.same(Due.bag(x, one, one), Due.bag(x, one)));
    }

    private static void testBagsInPairs() {
        Due.words("SAME: bags: .. which can be put in pairs, one of each, that are same");
        GraphCheck x = new GraphCheck();
        int[] n = {x.number(1L), x.number(2L), x.number(3L), x.number(1L)};
        Due.no("another one twice", x.same(Due.bag(x, n[0], n[0], n[1]), Due.bag(x, n[0], n[1], n[1])));
        Due.no("the last one differs", x.same(Due.bag(x, n[0], n[1], n[2]), Due.bag(x, n[0], n[1], n[1])));
        Due.yes("turned round", x.same(Due.bag(x, n[0], n[1], n[2]), Due.bag(x, n[2], n[1], n[3])));
        Due.yes("same ones of other nodes", x.same(Due.bag(x, n[0], n[0]), Due.bag(x, n[3], n[0])));
        Due.no("NONE and a number", x.same(Due.bag(x, NONE), Due.bag(x, n[0])));
        Due.no("NONE twice", x.same(Due.bag(x, NONE, NONE, n[0]), Due.bag(x, NONE, n[0], n[0])));
        int rising = Due.bag(x, n[0], n[0], n[0], n[0], n[1], n[1], n[1], n[1], n[2], n[2], n[2], NONE);
        int falling = Due.bag(x, NONE, n[2], n[2], n[2], n[1], n[1], n[1], n[1], n[3], n[3], n[3], n[3]);
        int other = Due.bag(x, NONE, n[2], n[2], n[2], n[1], n[1], n[1], n[3], n[3], n[3], n[3], n[3]);
        Due.yes("twelve members turned round", x.same(rising, falling));
        Due.no("twelve, one of them of another sort", x.same(rising, other));
    }

    private static void testTypesIfTheyCount() {
        Due.words("SAME: records: the same type, if types count");
        GraphCheck x = new GraphCheck();
        int first = x.group(5, 0);
        int last = x.group(5, 9);
        Due.no("types 0 and 9", x.same(first, last));
        Due.yes("type 9 twice", x.same(last, x.group(5, 9)));
        x.rules(false, false, 200);
        Due.yes("types do not count", x.same(first, last));
        Due.no("a record and a list, though types do not count", x.same(first, x.group(3, 0)));
        x.rules(true, false, 200);
        Due.no("types count again", x.same(first, last));
    }

    private static void testFieldsOfBoth() {
        Due.words("SAME: records: of each name either both have no field, or both one, and these are same");
        GraphCheck x = new GraphCheck();
        int one = x.number(1L);
        int otherOne = x.number(1L);
        int two = x.number(2L);
        Due.yes("no fields", x.same(x.group(5, 0), x.group(5, 0)));
        for (int name = 0; name < 20; name += 19) {
            int record = Due.record(x, 0, 8, one, name, one);
            Due.no("one has name " + name, x.same(record, Due.record(x, 0, 8, one)));
            Due.no("the other one has it", x.same(Due.record(x, 0, 8, one), record));
            Due.no("it is NONE in one, and not there in the other one",
                    x.same(Due.record(x, 0, name, NONE), x.group(5, 0)));
            Due.no("it is another one", x.same(record, Due.record(x, 0, 8, one, name, two)));
            Due.no("it is NONE", x.same(record, Due.record(x, 0, 8, one, name, NONE)));
            Due.yes("it is same", x.same(record, Due.record(x, 0, name, otherOne, 8, one)));
        }
        Due.no("names 3 and 4", x.same(Due.record(x, 0, 3, one), Due.record(x, 0, 4, one)));
    }

    private static void testIgnoredFields() {
        Due.words("SAME: records: of each name that is not IGNORED");
        GraphCheck x = new GraphCheck();
        int one = x.number(1L);
        int two = x.number(2L);
        for (int name = 0; name < 20; name += 19) {
            x.ignore(name, true);
            int record = Due.record(x, 0, 8, one, name, one);
            Due.yes("one has it", x.same(record, Due.record(x, 0, 8, one)));
            Due.yes("it differs", x.same(record, Due.record(x, 0, 8, one, name, two)));
            Due.no("another name differs", x.same(record, Due.record(x, 0, 8, two, name, one)));
            Due.no("the name beside it", x.same(record, Due.record(x, 0, 8, one, name == 0 ? 1 : 18, one)));
            x.ignore(name, false);
        }
        for (int name = 0; name < 20; name++) {
            x.ignore(name, true);
        }
        Due.yes("all are ignored", x.same(Due.record(x, 0, 0, one, 19, two), x.group(5, 0)));
        Due.no("all are ignored, but not the type", x.same(x.group(5, 1), x.group(5, 0)));
    }

    private static void testGreatest() {
        Due.words("SAME: the greatest relation");
        GraphCheck x = new GraphCheck();
        for (int kind = 3; kind <= 5; kind++) {
            int alone = x.group(kind, 0);
            int next = x.group(kind, 0);
            int last = x.group(kind, 0);
            x.put(alone, 0, alone);
            x.put(next, 0, last);
            x.put(last, 0, next);
            Due.yes("a ring of one and a ring of two, kind " + kind, x.same(alone, last));
            Due.yes("the two of a ring, kind " + kind, x.same(next, last));
            int before = x.group(kind, 0);
            x.put(before, 0, alone);
            Due.yes("what leads to a ring, kind " + kind, x.same(before, next));
        }
        Due.is("a kind of rings for each of the three", x.count(5), 3);
    }

    private static void testGreatestIsNotTooGreat() {
        Due.words("SAME: of the relation all this is so");
        GraphCheck x = new GraphCheck();
        int list = x.group(3, 0);
        x.put(list, 0, list);
        int bag = x.group(4, 0);
        x.put(bag, 0, bag);
        int record = x.group(5, 0);
        x.put(record, 0, record);
        Due.is("rings of different kinds", x.count(5), 3);
        Due.no("a ring and what ends", x.same(list, Due.list(x, Due.list(x, x.group(3, 0)))));
        int twice = x.group(3, 0);
        x.put(twice, 0, twice);
        x.put(twice, 0, twice);
        Due.no("once itself and twice itself", x.same(list, twice));
        int mixed = Due.list(x, bag);
        Due.no("a list of itself and a list of a bag of itself", x.same(list, mixed));
    }

    private static void testFarApart() {
        Due.words("SAME: what differs may be 63 steps off");
        GraphCheck x = new GraphCheck();
        makeChain(x);
        Due.is("64 different lists", x.count(5), 64);
        Due.no("lists 0 and 1", x.same(0, 1));
        x.put(63, 0, 0);
        Due.is("a ring of 64 lists: one kind", x.count(5), 1);
        Due.yes("lists 0 and 63", x.same(0, 63));
    }

    /** 64 lists, each with the next one as its member; the last one is empty. */
    private static void makeChain(GraphCheck x) {
        for (int k = 0; k < 64; k++) {
            x.group(3, 0);
        }
        for (int k = 0; k < 63; k++) {
            x.put(k, 0, k + 1);
        }
    }

    private static void testAfterEachChange() {
        Due.words("Promise 10: whether two nodes are same, as they are now");
        GraphCheck x = new GraphCheck();
        int text = x.text('a');
        int otherText = x.text('a');
        Due.yes("texts", x.same(text, otherText));
        x.append(text, 'b');
        Due.no("one has a character more", x.same(text, otherText));
        x.append(otherText, 'b');
        Due.yes("both have", x.same(text, otherText));
        int list = Due.list(x, text);
        int otherList = Due.list(x, otherText);
        Due.yes("lists", x.same(list, otherList));
        x.put(list, 0, NONE);
        Due.no("one has a member more", x.same(list, otherList));
        int record = Due.record(x, 0, 6, text);
        int otherRecord = Due.record(x, 0, 6, text);
        Due.yes("records", x.same(record, otherRecord));
        x.put(record, 6, NONE);
        Due.no("one has another field", x.same(record, otherRecord));
        x.put(otherRecord, 6, NONE);
        Due.yes("both have", x.same(record, otherRecord));
        x.put(otherRecord, 7, NONE);
        Due.no("one has a field more", x.same(record, otherRecord));
    }

    private static void testSameOfNoNode() {
        Due.words("Promise 10: IndexOutOfBoundsException if there is no such node");
        GraphCheck x = new GraphCheck();
        x.number(1L);
        for (int node : Due.noNodes(x)) {
            Due.throwsNoNode("same(" + node + ", 0)", () -> x.same(node, 0));
            Due.throwsNoNode("same(0, " + node + ")", () -> x.same(0, node));
            Due.throwsNoNode("same(NONE, " + node + ")", () -> x.same(NONE, node));
            Due.throwsNoNode("same(" + node + ", " + node + ")", () -> x.same(node, node));
        }
    }

    private static void testReasons() {
        testReasonNone();
        testReasonKinds();
        testReasonValues();
        testReasonLengths();
        testReasonBags();
        testReasonTypes();
        testReasonTypesFirst();
        testReasonNames();
        testReasonNamesNotIgnored();
    }

    /** The two differ at once; a path of no steps has no step 0. */
    private static void dueReason(GraphCheck x, String what, int a, int b, int reason, int name) {
        Due.is("how many steps: " + what, x.difference(a, b), 0);
        Due.is("reason: " + what, x.step(NONE), reason);
        Due.is("name: " + what, x.step(-2), name);
        Due.throwsNoNode("step 0: " + what, () -> x.step(0));
    }

    private static void testReasonNone() {
        Due.words("REASON: 1 one is NONE, the other not");
        GraphCheck x = new GraphCheck();
        for (int node : Due.oneOfEach(x)) {
            dueReason(x, "NONE and kind " + node, NONE, node, 1, NONE);
            dueReason(x, "kind " + node + " and NONE", node, NONE, 1, NONE);
        }
    }

    private static void testReasonKinds() {
        Due.words("REASON: 2 different kinds");
        GraphCheck x = new GraphCheck();
        int[] nodes = Due.oneOfEach(x);
        for (int a : nodes) {
            for (int b : nodes) {
                if (a != b) {
                    dueReason(x, "kinds " + a + " and " + b, a, b, 2, NONE);
                }
            }
        }
    }

    private static void testReasonValues() {
        Due.words("REASON: 3 different numbers, reals or texts");
        GraphCheck x = new GraphCheck();
        dueReason(x, "numbers", x.number(Long.MIN_VALUE), x.number(Long.MAX_VALUE), 3, NONE);
        dueReason(x, "reals", x.real(0.0), x.real(-0.125), 3, NONE);
        dueReason(x, "texts", x.text('a'), x.text('b'), 3, NONE);
        dueReason(x, "texts of different lengths", x.text('a'), x.text(0L), 3, NONE);
    }

    private static void testReasonLengths() {
        Due.words("REASON: 4 lists of different lengths");
        GraphCheck x = new GraphCheck();
        int one = x.number(1L);
        int two = x.number(2L);
        dueReason(x, "none and one", x.group(3, 0), Due.list(x, NONE), 4, NONE);
        dueReason(x, "one more", Due.list(x, one), Due.list(x, one, one), 4, NONE);
        dueReason(x, "one less, and the first ones differ", Due.list(x, one, two), Due.list(x, two), 4, NONE);
        Due.is("of one length there is no reason", x.difference(Due.list(x, one), Due.list(x, two)), 1);
    }

    private static void testReasonBags() {
        Due.words("REASON: 5 bags (that are not same)");
        GraphCheck x = new GraphCheck();
        int one = x.number(1L);
        int two = x.number(2L);
        dueReason(x, "of different sizes", x.group(4, 0), Due.bag(x, one), 5, NONE);
        dueReason(x, "of one size: no step leads into bags", Due.bag(x, one), Due.bag(x, two), 5, NONE);
        int lists = Due.list(x, Due.bag(x, one, two), Due.bag(x, one));
        int others = Due.list(x, Due.bag(x, two, one), Due.bag(x, two));
        Due.is("bags that are same have no reason", x.difference(lists, others), 1);
        Due.is("it is at the second ones", x.step(0), 1);
    }

    private static void testReasonTypes() {
        Due.words("REASON: 6 records of different types, if types count");
        GraphCheck x = new GraphCheck();
        int one = x.number(1L);
        int a = Due.record(x, 0, 4, one);
        int b = Due.record(x, 9, 4, NONE);
        dueReason(x, "types 0 and 9", a, b, 6, NONE);
        x.rules(false, false, 200);
        Due.is("types do not count: a step", x.difference(a, b), 1);
        Due.is("by name 4", x.step(0), 4);
        Due.is("to NONE", x.step(NONE), 1);
    }

    private static void testReasonTypesFirst() {
        Due.words("REASON: 6 is told ahead of 7");
        GraphCheck x = new GraphCheck();
        int a = Due.record(x, 0, 4, NONE);
        int b = Due.record(x, 9);
        dueReason(x, "both reasons", a, b, 6, NONE);
        x.rules(false, false, 200);
        dueReason(x, "types do not count", a, b, 7, 4);
    }

    private static void testReasonNames() {
        Due.words("REASON: 7 .. a field of a name and the other one not: the least such name tells it");
        GraphCheck x = new GraphCheck();
        int one = x.number(1L);
        int two = x.number(2L);
        dueReason(x, "name 0", Due.record(x, 1, 0, NONE), x.group(5, 1), 7, 0);
        dueReason(x, "name 19, of the other one", x.group(5, 1), Due.record(x, 1, 19, one), 7, 19);
        dueReason(x, "0 of one, 19 of the other one", Due.record(x, 1, 0, one), Due.record(x, 1, 19, one), 7, 0);
        dueReason(x, "19 of one, 0 of the other one", Due.record(x, 1, 19, one), Due.record(x, 1, 0, one), 7, 0);
        dueReason(x, "a lesser name of both is none such", Due.record(x, 1, 0, one, 7, one, 8, one),
                Due.record(x, 1, 0, two), 7, 7);
    }

    private static void testReasonNamesNotIgnored() {
        Due.words("REASON: 7 .. (not ignored)");
        GraphCheck x = new GraphCheck();
        int one = x.number(1L);
        int a = Due.record(x, 1, 0, one, 5, one, 19, one);
        int b = Due.record(x, 1, 5, NONE);
        dueReason(x, "none is ignored", a, b, 7, 0);
        x.ignore(0, true);
        dueReason(x, "0 is ignored", a, b, 7, 19);
        x.ignore(19, true);
        Due.is("both are ignored: a step", x.difference(a, b), 1);
        Due.is("by name 5", x.step(0), 5);
    }

    private static void testDifference() {
        testDifferenceOfSame();
        testFirstAndLastPlace();
        testFirstAndLastName();
        testNoStepByIgnoredName();
        testShortest();
        testLesserFirstStep();
        testLesserStepFurtherOn();
        testThroughRings();
        testLongestPath();
        testManyPaths();
        testDifferenceOfNoNode();
    }

    private static void testDifferenceOfSame() {
        Due.words("Promise 11: NONE if they are same");
        GraphCheck x = new GraphCheck();
        Due.is("NONE and NONE", x.difference(NONE, NONE), NONE);
        for (int node : Due.oneOfEach(x)) {
            Due.is("kind " + node + " and itself", x.difference(node, node), NONE);
        }
        x.put(3, 0, 3);
        Due.is("rings", x.difference(3, Due.list(x, 3)), NONE);
        Due.is("0.0 and -0.0", x.difference(1, x.real(-0.0)), NONE);
    }

    private static void duePath(GraphCheck x, String what, int a, int b, String steps, int reason) {
        int size = x.difference(a, b);
        Due.text("path: " + what, Due.steps(x, size), steps);
        Due.is("reason: " + what, x.step(NONE), reason);
        Due.throwsNoNode("one step more: " + what, () -> x.step(size));
    }

    private static void testFirstAndLastPlace() {
        Due.words("DIFFERENCE: a step being a place of two lists (from 0 on)");
        GraphCheck x = new GraphCheck();
        int[] most = {NONE, NONE, NONE, NONE, NONE, NONE, NONE, NONE, NONE, NONE, NONE, NONE};
        int one = x.number(1L);
        int all = Due.list(x, most);
        most[11] = one;
        duePath(x, "place 11", all, Due.list(x, most), "11", 1);
        most[0] = one;
        duePath(x, "place 0", Due.list(x, most), all, "0", 1);
        duePath(x, "the one place", Due.list(x, one), Due.list(x, NONE), "0", 1);
    }

    private static void testFirstAndLastName() {
        Due.words("DIFFERENCE: .. or a name of which two records both have a field");
        GraphCheck x = new GraphCheck();
        int one = x.number(1L);
        int two = x.number(2L);
        duePath(x, "name 19", Due.record(x, 0, 0, one, 19, one), Due.record(x, 0, 0, one, 19, two), "19", 3);
        duePath(x, "name 0", Due.record(x, 0, 0, one, 19, one), Due.record(x, 0, 0, NONE, 19, two), "0", 1);
        duePath(x, "both have it, one is NONE", Due.record(x, 0, 3, NONE), Due.record(x, 0, 3, two), "3", 1);
    }

    private static void testNoStepByIgnoredName() {
        Due.words("DIFFERENCE: .. (not ignored)");
        GraphCheck x = new GraphCheck();
        int one = x.number(1L);
        int two = x.number(2L);
        int a = Due.record(x, 0, 0, one, 19, Due.list(x, one));
        int b = Due.record(x, 0, 0, two, 19, Due.list(x, two));
        duePath(x, "none is ignored", a, b, "0", 3);
        x.ignore(0, true);
        duePath(x, "0 is ignored", a, b, "19 0", 3);
        x.ignore(0, false);
        x.ignore(19, true);
        duePath(x, "19 is ignored", a, b, "0", 3);
        duePath(x, "places are no names", Due.list(x, a, a), Due.list(x, a, b), "1 0", 3);
    }

    private static void testShortest() {
        Due.words("DIFFERENCE: the shortest PATH");
        GraphCheck x = new GraphCheck();
        int one = x.number(1L);
        int two = x.number(2L);
        int a = Due.list(x, Due.list(x, Due.list(x, one)), Due.list(x, one), one);
        int b = Due.list(x, Due.list(x, Due.list(x, two)), Due.list(x, two), two);
        duePath(x, "of three", a, b, "2", 3);
        int c = Due.list(x, Due.list(x, Due.list(x, one)), Due.list(x, one), one);
        int d = Due.list(x, Due.list(x, Due.list(x, two)), Due.list(x, two), one);
        duePath(x, "of two", c, d, "1 0", 3);
    }

    private static void testLesserFirstStep() {
        Due.words("DIFFERENCE: .. the one with the lesser first step that is not alike");
        GraphCheck x = new GraphCheck();
        int one = x.number(1L);
        int two = x.number(2L);
        duePath(x, "places 0 and 1", Due.list(x, one, one), Due.list(x, two, NONE), "0", 3);
        duePath(x, "names 4 and 9", Due.record(x, 0, 9, one, 4, one), Due.record(x, 0, 9, two, 4, NONE), "4", 1);
        int late = Due.list(x, one, Due.list(x, one, two));
        int early = Due.list(x, one, Due.list(x, one, one));
        int third = Due.list(x, two, one);
        int other = Due.list(x, one, one);
        duePath(x, "1 1 1 and 2 0 .. are as long: the first step tells",
                Due.list(x, one, late, Due.list(x, third)), Due.list(x, one, early, Due.list(x, other)), "1 1 1", 3);
    }

    private static void testLesserStepFurtherOn() {
        Due.words("DIFFERENCE: .. that is not alike: a later one, if the earlier are alike");
        GraphCheck x = new GraphCheck();
        int one = x.number(1L);
        int two = x.number(2L);
        int a = Due.list(x, one, Due.list(x, one, one, one));
        int b = Due.list(x, one, Due.list(x, one, two, NONE));
        duePath(x, "1 1 and 1 2", a, b, "1 1", 3);
        int c = Due.list(x, one);
        int d = Due.list(x, two);
        duePath(x, "one pair on two paths", Due.list(x, NONE, c, c), Due.list(x, NONE, d, d), "1 0", 3);
    }

    private static void testThroughRings() {
        Due.words("DIFFERENCE: a path leads round rings");
        GraphCheck x = new GraphCheck();
        int a = x.group(3, 0);
        int b = x.group(3, 0);
        int c = x.group(3, 0);
        x.put(a, 0, a);
        x.put(b, 0, c);
        x.put(c, 0, b);
        x.put(a, 0, NONE);
        x.put(b, 0, NONE);
        x.put(c, 0, x.number(1L));
        duePath(x, "a ring of one, a ring of two", a, b, "0 1", 1);
        duePath(x, "the other one of two", a, c, "1", 1);
    }

    private static void testLongestPath() {
        Due.words("DIFFERENCE: the longest of all");
        GraphCheck x = new GraphCheck();
        makeChain(x);
        Due.is("62 steps", x.difference(0, 1), 62);
        Due.is("to lists of different lengths", x.step(NONE), 4);
        x.put(63, 0, NONE);
        Due.is("63 steps", x.difference(1, 0), 63);
        Due.is("to NONE and another one", x.step(NONE), 1);
        for (int k = 0; k < 63; k++) {
            Due.is("step " + k, x.step(k), 0);
        }
        Due.throwsNoNode("step 63", () -> x.step(63));
    }

    /** 7^30 paths lead to the end of two rows of lists; the one by places 0 is told. */
    private static void testManyPaths() {
        Due.words("DIFFERENCE: .. of several as short ones, however many");
        GraphCheck x = new GraphCheck();
        int left = x.number(1L);
        int right = x.number(2L);
        for (int k = 0; k < 30; k++) {
            left = Due.list(x, left, left, left, left, left, left, left);
            right = Due.list(x, right, right, right, right, right, right, right);
        }
        Due.is("30 steps", x.difference(left, right), 30);
        Due.is("step 0", x.step(0), 0);
        Due.is("step 29", x.step(29), 0);
        Due.is("different numbers", x.step(NONE), 3);
    }

    private static void testDifferenceOfNoNode() {
        Due.words("Promise 11: IndexOutOfBoundsException if there is no such node");
        GraphCheck x = new GraphCheck();
        x.number(1L);
        for (int node : Due.noNodes(x)) {
            Due.throwsNoNode("difference(" + node + ", 0)", () -> x.difference(node, 0));
            Due.throwsNoNode("difference(0, " + node + ")", () -> x.difference(0, node));
            Due.throwsNoNode("difference(" + node + ", itself)", () -> x.difference(node, node));
        }
    }

    private static void testStep() {
        testNoneLatest();
        testLatestThatDidNotThrow();
        testLatestOfBoth();
        testNoSuchStepOfDifference();
        testNoSuchStepOfWay();
        testNoNameOfWay();
        testSameTellsNoStep();
        testChangesKeepSteps();
    }

    private static void testNoneLatest() {
        Due.words("Promise 12: IndexOutOfBoundsException if .. there was neither");
        GraphCheck x = new GraphCheck();
        int one = x.number(1L);
        x.same(one, NONE);
        Due.throwsNoNode("a difference that throws is none", () -> x.difference(one, 1));
        Due.throwsNoArgument("a way that throws is none", () -> x.way(one, one));
        for (int k : new int[] {NONE, -2, -3, 0, 1}) {
            Due.throwsNoNode("step(" + k + ")", () -> x.step(k));
        }
    }

    private static void testLatestThatDidNotThrow() {
        Due.words("Promise 12: of the latest difference() or way() that did not throw");
        GraphCheck x = new GraphCheck();
        int one = x.number(1L);
        int list = Due.list(x, one);
        int other = Due.list(x, NONE);
        x.difference(list, other);
        Due.throwsNoNode("a difference", () -> x.difference(list, 64));
        Due.throwsNoArgument("a way", () -> x.way(list, one));
        Due.is("the reason of the difference", x.step(NONE), 1);
        Due.is("its step", x.step(0), 0);
        x.way(other, Due.list(x));
        Due.throwsNoNode("a difference", () -> x.difference(64, NONE));
        Due.throwsNoArgument("a way", () -> x.way(NONE, NONE));
        Due.is("what the way costs", x.step(NONE), 1);
        Due.is("its step", x.step(0), 1);
    }

    private static void testLatestOfBoth() {
        Due.words("Promise 12: of the latest difference() or way()");
        GraphCheck x = new GraphCheck();
        int one = x.number(1L);
        int list = Due.list(x, one);
        int empty = x.group(3, 0);
        x.difference(one, NONE);
        x.way(list, list);
        Due.is("a way after a difference: its cost", x.step(NONE), 0);
        Due.is("its step", x.step(0), 0);
        x.difference(list, empty);
        Due.is("a difference after a way: its reason", x.step(NONE), 4);
        Due.throwsNoNode("it has no step", () -> x.step(0));
        x.difference(NONE, one);
        Due.is("a difference after a difference", x.step(NONE), 1);
        x.way(list, empty);
        x.way(empty, list);
        Due.is("a way after a way", x.step(0), 2);
    }

    private static void testNoSuchStepOfDifference() {
        Due.words("Promise 12: IndexOutOfBoundsException if there is no such step, of a difference");
        GraphCheck x = new GraphCheck();
        int one = x.number(1L);
        Due.is("a path of one step", x.difference(Due.list(x, NONE), Due.list(x, one)), 1);
        for (int k : Due.outside(-3, 1)) {
            Due.throwsNoNode("step(" + k + ")", () -> x.step(k));
        }
        Due.is("its step", x.step(0), 0);
        Due.is("k = NONE: the reason", x.step(NONE), 1);
        Due.is("k = -2: NONE, of another reason than 7", x.step(-2), NONE);
    }

    private static void testNoSuchStepOfWay() {
        Due.words("Promise 12: IndexOutOfBoundsException if there is no such step, of a way");
        GraphCheck x = new GraphCheck();
        int empty = x.group(3, 0);
        Due.is("a way of one step", x.way(empty, Due.list(x, NONE)), 1);
        for (int k : Due.outside(-3, 1)) {
            Due.throwsNoNode("step(" + k + ")", () -> x.step(k));
        }
        Due.is("its step", x.step(0), 2);
        Due.is("k = NONE: what it costs", x.step(NONE), 1);
        Due.is("a way of no steps", x.way(empty, empty), 0);
        Due.throwsNoNode("step(0) of none", () -> x.step(0));
        Due.is("k = NONE: it costs nothing", x.step(NONE), 0);
    }

    private static void testNoNameOfWay() {
        Due.words("Promise 12: of a difference k = -2");
        GraphCheck x = new GraphCheck();
        int empty = x.group(3, 0);
        x.difference(x.group(5, 0), Due.record(x, 0, 6, NONE));
        Due.is("the name of reason 7", x.step(-2), 6);
        x.way(empty, empty);
        Due.throwsNoNode("a way has no step -2", () -> x.step(-2));
        x.difference(empty, NONE);
        Due.is("a difference of another reason: NONE", x.step(-2), NONE);
    }

    private static void testSameTellsNoStep() {
        Due.words("Promise 12: .. the two of the latest difference() were same (then for every k; an elder way is gone)");
        GraphCheck x = new GraphCheck();
        int list = Due.list(x, NONE);
        for (int elder = 0; elder < 2; elder++) {
            Due.is("an elder way, or difference", elder == 0 ? x.way(list, list) : x.difference(NONE, list), 1 - elder);
            Due.is("they are same", x.difference(list, Due.list(x, NONE)), NONE);
            for (int k : new int[] {NONE, -2, -3, 0, 1, Integer.MAX_VALUE, Integer.MIN_VALUE}) {
                Due.throwsNoNode("step(" + k + ")", () -> x.step(k));
            }
        }
        x.way(list, list);
        Due.is("a younger way is told", x.step(0), 0);
    }

    private static void testChangesKeepSteps() {
        Due.words("Promise 12: the latest difference() tells what was so then");
        GraphCheck x = new GraphCheck();
        int record = Due.record(x, 0, 6, NONE);
        int other = x.group(5, 0);
        int holder = Due.list(x, record);
        Due.is("a difference", x.difference(holder, Due.list(x, other)), 1);
        x.put(other, 6, NONE);
        x.ignore(6, true);
        x.rules(false, true, 3);
        x.same(holder, other);
        Due.is("its step", x.step(0), 0);
        Due.is("its reason", x.step(NONE), 7);
        Due.is("its name", x.step(-2), 6);
    }
}
