/** Promises 1 to 9: a new object, nodes and what they are made of, what is ignored, the rules. */
public final class NodesTest {
    private static final int NONE = GraphCheck.NONE;

    public static void main(String[] args) {
        testNewObject();
        testNumbers();
        testReals();
        testTexts();
        testGroups();
        testRoomForNodes();
        testPutMembers();
        testPutFields();
        testPutWrong();
        testAppend();
        testIgnore();
        testRules();
        Due.end();
    }

    private static void testNewObject() {
        GraphCheck x = new GraphCheck();
        for (int what = 0; what <= 5; what++) {
            Due.is("count(" + what + ") of a new object", x.count(what), 0);
        }
        Due.throwsNoNode("node 0 of a new object", () -> x.same(0, NONE));
        Due.throwsNoNode("step of a new object", () -> x.step(NONE));
        Due.throwsNoNode("cause of a new object", () -> x.cause(NONE, 0));
        Due.is("settle() of a new object", x.settle(), 0);
        int n = x.number(1L);
        for (int name = 0; name < 20; name++) {
            int a = Due.record(x, 1, name, n);
            int b = Due.record(x, 1, name, NONE);
            Due.no("name " + name + " is ignored at first", x.same(a, b));
        }
        Due.no("types count at first", x.same(x.group(5, 1), x.group(5, 2)));
        int c = x.condition(7, 5, 0);
        Due.throwsNoState("a check that fails is not soft at first", () -> x.check(c, n));
        int list = Due.list(x);
        int text = Due.text(x, "123456789012345678901234567890123456");
        for (int k = 0; k < 5; k++) {
            x.put(list, 0, text);
        }
        Due.is("198 characters are shown whole at first", x.shown(list, NONE), 200);
        x.put(list, 0, NONE);
        Due.is("LIMIT is 200 at first", x.shown(list, NONE), 200);
        Due.is("character 199", x.shown(list, 199), '.');
    }

    private static void testNumbers() {
        GraphCheck x = new GraphCheck();
        Due.is("first number", x.number(7L), 0);
        Due.is("second number", x.number(7L), 1);
        Due.is("least number", x.number(Long.MIN_VALUE), 2);
        Due.is("count of nodes", x.count(0), 3);
        Due.text("least number shown", Due.shown(x, 2), "-9223372036854775808");
    }

    private static void testReals() {
        GraphCheck x = new GraphCheck();
        Due.is("first real", x.real(0.125), 0);
        Due.is("second real", x.real(-2.5), 1);
        Due.text("a real shown", Due.shown(x, 0), "0.125");
        Due.text("a real below 0 shown", Due.shown(x, 1), "-2.500");
    }

    private static void testTexts() {
        GraphCheck x = new GraphCheck();
        Due.is("first text", x.text(Due.bytes("abc")), 0);
        Due.text("highest byte first", Due.shown(x, 0), "\"abc\"");
        Due.text("no bytes", Due.shown(x, x.text(0L)), "\"\"");
        Due.text("bytes 0 left out", Due.shown(x, x.text(0x6100620000000063L)), "\"abc\"");
        Due.text("all eight bytes", Due.shown(x, x.text(0xff01028081fefd7fL)),
                "\"\u00ff\u0001\u0002\u0080\u0081\u00fe\u00fd\u007f\"");
    }

    private static void testGroups() {
        GraphCheck x = new GraphCheck();
        Due.is("a list", x.group(3, 99), 0);
        Due.is("a bag", x.group(4, -7), 1);
        Due.is("a record", x.group(5, 9), 2);
        Due.text("list shown", Due.shown(x, 0), "[]");
        Due.text("bag shown", Due.shown(x, 1), "{}");
        Due.text("record shown", Due.shown(x, 2), "T9()");
        int[] wrongKinds = {2, 6, 0, -1, Integer.MAX_VALUE, Integer.MIN_VALUE};
        for (int kind : wrongKinds) {
            Due.throwsNoArgument("group(" + kind + ", 0)", () -> x.group(kind, 0));
        }
        int[] wrongTypes = {-1, 10, Integer.MAX_VALUE, Integer.MIN_VALUE};
        for (int type : wrongTypes) {
            Due.throwsNoArgument("group(5, " + type + ")", () -> x.group(5, type));
        }
        Due.is("a record of type 0", x.group(5, 0), 3);
        Due.is("count of nodes", x.count(0), 4);
    }

    private static void testRoomForNodes() {
        GraphCheck x = new GraphCheck();
        for (int k = 0; k < 64; k++) {
            Due.is("node " + k, x.number(k), k);
        }
        Due.throwsNoState("number 65", () -> x.number(1L));
        Due.throwsNoState("real 65", () -> x.real(1.0));
        Due.throwsNoState("text 65", () -> x.text(1L));
        Due.throwsNoState("group 65", () -> x.group(5, 1));
        Due.throwsNoArgument("wrong group 65", () -> x.group(5, 10));
        Due.throwsNoArgument("group 65 of no kind", () -> x.group(0, 1));
        Due.is("count of nodes", x.count(0), 64);
        Due.is("kinds of nodes", x.count(5), 64);
        Due.text("the last node", Due.shown(x, 63), "63");
        Due.throwsNoNode("node 64", () -> x.shown(64, NONE));
    }

    private static void testPutMembers() {
        GraphCheck x = new GraphCheck();
        int n = x.number(4L);
        int list = x.group(3, 0);
        int bag = x.group(4, 0);
        Due.yes("a member of a list", x.put(list, -5, n));
        Due.yes("NONE as a member", x.put(list, 100, NONE));
        Due.yes("a list in itself", x.put(list, 0, list));
        Due.yes("a member of a bag", x.put(bag, Integer.MIN_VALUE, list));
        Due.yes("a bag in itself", x.put(bag, 0, bag));
        Due.text("members in their order", Due.shown(x, list), "[4, none, ^1]");
        Due.text("bag", Due.shown(x, bag), "{[4, none, ^1], ^1}");
        int full = x.group(4, 0);
        for (int k = 0; k < 12; k++) {
            Due.yes("member " + k, x.put(full, 0, n));
        }
        Due.no("member 12", x.put(full, 0, n));
        Due.is("12 members are shown", x.shown(full, NONE), 2 + 12 + 22);
    }

    private static void testPutFields() {
        GraphCheck x = new GraphCheck();
        int n = x.number(4L);
        int record = x.group(5, 3);
        Due.yes("field 19", x.put(record, 19, n));
        Due.yes("field 0", x.put(record, 0, record));
        Due.yes("field 7 that is NONE", x.put(record, 7, NONE));
        Due.text("fields by rising names", Due.shown(x, record), "T3(n0=^1, n7=none, n19=4)");
        Due.yes("field 0 anew", x.put(record, 0, n));
        Due.text("in place of the one of that name", Due.shown(x, record), "T3(n0=4, n7=none, n19=4)");
        Due.yes("three fields", x.holds(x.condition(6, 3, 0), record));
        int full = x.group(5, 0);
        for (int name = 0; name < 20; name++) {
            Due.yes("field " + name, x.put(full, name, NONE));
        }
        Due.yes("a record has up to 20 fields", x.holds(x.condition(6, 20, 0), full));
        Due.yes("a full record takes a field anew", x.put(full, 13, n));
    }

    private static void testPutWrong() {
        GraphCheck x = new GraphCheck();
        int n = x.number(4L);
        int t = x.text(1L);
        int r = x.real(1.0);
        int list = x.group(3, 0);
        int record = x.group(5, 0);
        int[] noNodes = {NONE, -2, 5, 64, Integer.MAX_VALUE, Integer.MIN_VALUE};
        for (int node : noNodes) {
            Due.no("put into node " + node, x.put(node, 0, n));
        }
        int[] noValues = {-2, 5, 64, Integer.MAX_VALUE, Integer.MIN_VALUE};
        for (int value : noValues) {
            Due.no("put the value " + value, x.put(list, 0, value));
            Due.no("put the field " + value, x.put(record, 0, value));
        }
        int[] noNames = {-1, 20, Integer.MAX_VALUE, Integer.MIN_VALUE};
        for (int name : noNames) {
            Due.no("put a field of name " + name, x.put(record, name, n));
        }
        Due.no("put into a number", x.put(n, 0, n));
        Due.no("put into a real", x.put(r, 0, n));
        Due.no("put into a text", x.put(t, 0, n));
        Due.text("nothing is put into the list", Due.shown(x, list), "[]");
        Due.text("nothing is put into the record", Due.shown(x, record), "T0()");
    }

    private static void testAppend() {
        GraphCheck x = new GraphCheck();
        int t = x.text(Due.bytes("ab"));
        int n = x.number(1L);
        int list = x.group(3, 0);
        Due.yes("append", x.append(t, 0x6300640000000000L));
        Due.text("appended", Due.shown(x, t), "\"abcd\"");
        Due.yes("append nothing", x.append(t, 0L));
        for (int k = 0; k < 4; k++) {
            Due.yes("append eight", x.append(t, Due.bytes("12345678")));
        }
        Due.no("more than 40", x.append(t, Due.bytes("12345")));
        Due.is("nothing is appended", x.shown(t, NONE), 38);
        Due.yes("40 just", x.append(t, 0x7800000079007a77L));
        Due.text("40 characters", Due.shown(x, t), "\"abcd12345678123456781234567812345678xyzw\"");
        Due.no("character 41", x.append(t, 1L));
        Due.yes("nothing at 40", x.append(t, 0L));
        Due.no("append to a number", x.append(n, 1L));
        Due.no("append to a list", x.append(list, 1L));
        int[] noNodes = {NONE, -2, 3, 64, Integer.MAX_VALUE, Integer.MIN_VALUE};
        for (int node : noNodes) {
            Due.no("append to " + node, x.append(node, 0L));
        }
    }

    private static void testIgnore() {
        GraphCheck x = new GraphCheck();
        int n = x.number(1L);
        int a = Due.record(x, 0, 0, n, 19, n);
        int b = Due.record(x, 0, 0, NONE);
        Due.yes("ignore 0", x.ignore(0, true));
        Due.no("19 is not ignored", x.same(a, b));
        Due.yes("ignore 19", x.ignore(19, true));
        Due.yes("both are ignored", x.same(a, b));
        Due.text("what is ignored is shown", Due.shown(x, a), "T0(n0=1, n19=1)");
        Due.yes("0 no more", x.ignore(0, false));
        Due.no("0 is not ignored now", x.same(a, b));
        int[] noNames = {-1, 20, Integer.MAX_VALUE, Integer.MIN_VALUE};
        for (int name : noNames) {
            Due.no("ignore " + name, x.ignore(name, true));
        }
    }

    private static void testRules() {
        GraphCheck x = new GraphCheck();
        int a = x.group(5, 1);
        int b = x.group(5, 2);
        int t = x.text(Due.bytes("abcdef"));
        int c = x.condition(7, 0, 0);
        Due.yes("limit 3", x.rules(false, true, 3));
        Due.yes("types do not count", x.same(a, b));
        Due.text("limit 3 shown", Due.shown(x, t), "...");
        Due.no("soft", x.check(c, a));
        int[] noLimits = {2, 1001, 0, -1, Integer.MAX_VALUE, Integer.MIN_VALUE};
        for (int limit : noLimits) {
            Due.no("limit " + limit, x.rules(true, false, limit));
        }
        Due.yes("rules are as they were: types", x.same(a, b));
        Due.no("rules are as they were: soft", x.check(c, a));
        Due.is("rules are as they were: limit", x.shown(t, NONE), 3);
        Due.yes("limit 1000", x.rules(true, false, 1000));
        Due.no("types count again", x.same(a, b));
        Due.throwsNoState("not soft again", () -> x.check(c, a));
        Due.is("failures that were soft", x.count(3), 2);
    }
}
