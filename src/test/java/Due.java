/**
 * What the tests share: it compares answers, prints those that are not due, and counts them.
 * A test's main ends with Due.end(), which exits with 1 if one was wrong or none was asked.
 */
final class Due {
    private static int asked = 0;
    private static int wrong = 0;
    private static String sentence = "";

    private Due() {
    }

    /** What is asked from here on tests these words of the document: a wrong answer tells them. */
    static void words(String words) {
        sentence = words + ": ";
    }

    /** A call that is to throw; made as a lambda. */
    interface Call {
        void run();
    }

    static void is(String what, long got, long want) {
        asked++;
        if (got != want) {
            wrong++;
            System.out.println(sentence + what + " answered " + got + ", due is " + want);
        }
    }

    static void yes(String what, boolean got) {
        is(what, got ? 1 : 0, 1);
    }

    static void no(String what, boolean got) {
        is(what, got ? 1 : 0, 0);
    }

    static void text(String what, String got, String want) {
        asked++;
        if (!got.equals(want)) {
            wrong++;
            System.out.println(sentence + what + " answered " + got + ", due is " + want);
        }
    }

    static void throwing(String what, Class<? extends RuntimeException> want, Call call) {
        text(what, thrownBy(call), want.getSimpleName());
    }

    static void throwsNoNode(String what, Call call) {
        throwing(what, IndexOutOfBoundsException.class, call);
    }

    static void throwsNoArgument(String what, Call call) {
        throwing(what, IllegalArgumentException.class, call);
    }

    static void throwsNoState(String what, Call call) {
        throwing(what, IllegalStateException.class, call);
    }

    static void throwsUnsupported(String what, Call call) {
        throwing(what, UnsupportedOperationException.class, call);
    }

    static String thrownBy(Call call) {
        try {
            call.run();
            return "nothing";
        } catch (RuntimeException e) {
            return e.getClass().getSimpleName();
        }
    }

    /** The bytes of a text of at most 8 characters, as text() and append() take them. */
    static long bytes(String letters) {
        long bytes = 0;
        for (int k = 0; k < letters.length(); k++) {
            bytes = bytes << 8 | letters.charAt(k) & 255;
        }
        return bytes;
    }

    /** A text node of any length. */
    static int text(GraphCheck x, String letters) {
        int node = x.text(0L);
        for (int k = 0; k < letters.length(); k += 8) {
            x.append(node, bytes(letters.substring(k, Math.min(k + 8, letters.length()))));
        }
        return node;
    }

    static int list(GraphCheck x, int... members) {
        return filled(x, 3, members);
    }

    static int bag(GraphCheck x, int... members) {
        return filled(x, 4, members);
    }

    private static int filled(GraphCheck x, int kind, int[] members) {
        int node = x.group(kind, 0);
        for (int member : members) {
            x.put(node, 0, member);
        }
        return node;
    }

    /** A record of a type, with fields told as name, value, name, value and so on. */
    static int record(GraphCheck x, int type, int... fields) {
        int node = x.group(5, type);
        for (int k = 0; k + 1 < fields.length; k += 2) {
            x.put(node, fields[k], fields[k + 1]);
        }
        return node;
    }

    /** One node of each kind, at the place of its kind; 0, or empty, each of them. */
    static int[] oneOfEach(GraphCheck x) {
        return new int[] {
            x.number(0L), x.real(0.0), x.text(0L), x.group(3, 0), x.group(4, 0), x.group(5, 0)
        };
    }

    /** What is no node and not NONE either: just outside, and far off. */
    static int[] noNodes(GraphCheck x) {
        return outside(-2, x.count(0));
    }

    /** What is no condition: just outside, and far off. */
    static int[] noConditions(GraphCheck x) {
        return outside(-1, x.count(1));
    }

    /** Just below and just above what there is, 64 (no row here has more), and the farthest off. */
    static int[] outside(int below, int above) {
        return new int[] {below, above, Math.max(above, 64), Integer.MAX_VALUE, Integer.MIN_VALUE};
    }

    /** Numbers 0, 1, 2 .. until there are so many nodes. */
    static void fill(GraphCheck x, int nodes) {
        for (int k = x.count(0); k < nodes; k++) {
            x.number(k);
        }
    }

    /** A node as it is shown, all its characters. */
    static String shown(GraphCheck x, int node) {
        StringBuilder row = new StringBuilder();
        int size = x.shown(node, GraphCheck.NONE);
        for (int k = 0; k < size; k++) {
            row.append((char) x.shown(node, k));
        }
        return row.toString();
    }

    /** The steps of the latest way or difference, blanks between. */
    static String steps(GraphCheck x, int size) {
        StringBuilder row = new StringBuilder();
        for (int k = 0; k < size; k++) {
            row.append(k == 0 ? "" : " ").append(x.step(k));
        }
        return row.toString();
    }

    static void end() {
        if (wrong > 0 || asked == 0) {
            System.out.println(wrong + " of " + asked + " answers are wrong");
            System.exit(1);
        }
        System.out.println("      " + asked + " answers are as due");
    }
}
