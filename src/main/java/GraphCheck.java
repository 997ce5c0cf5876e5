/**
 * Graphs of values, rings among them, compared, shown as text and told apart step by step;
 * conditions that are put together of others and checked at once or collected; and the
 * shortest way to make one row of another.
 */
public final class GraphCheck {
    public static final int NONE = -1;

    private static final int MAX_NODES = 64;
    private static final int MAX_MEMBERS = 12;
    private static final int MAX_NAMES = 20;
    private static final int MAX_TYPES = 10;
    private static final int MAX_LETTERS = 40;
    private static final int MAX_CONDITIONS = 64;
    private static final int MAX_NOTED = 30;
    private static final int MIN_LIMIT = 3;
    private static final int MAX_LIMIT = 1000;
    private static final int FIRST_LIMIT = 200;

    /** Stands where a record has no field: NONE can't say that, since it may be a field. */
    private static final int ABSENT = -2;

    private static final int NUMBER = 0;
    private static final int REAL = 1;
    private static final int TEXT = 2;
    private static final int LIST = 3;
    private static final int BAG = 4;
    private static final int RECORD = 5;

    private static final int EQUAL = 0;
    private static final int LESS = 1;
    private static final int MORE = 2;
    private static final int NEAR = 3;
    private static final int STARTS = 4;
    private static final int GLOB = 5;
    private static final int SIZE = 6;
    private static final int KIND = 7;
    private static final int NOT = 8;
    private static final int ALL = 9;
    private static final int ANY = 10;
    private static final int EACH = 11;
    private static final int SOME = 12;
    private static final int FIELD = 13;
    private static final int HAS = 14;

    private static final int LATEST_NOTHING = 0;
    private static final int LATEST_DIFFERENCE = 1;
    private static final int LATEST_WAY = 2;

    private final Likeness likeness;
    private final Nodes nodes;
    private final Line line;
    private final Pairs pairs;
    private final Rows rows;
    private final Conditions conditions;
    private final Checks checks;
    private boolean soft;
    private int limit;
    private int latest;

    public GraphCheck() {
        likeness = new Likeness();
        nodes = likeness.nodes;
        line = new Line();
        pairs = new Pairs();
        rows = new Rows();
        conditions = new Conditions();
        checks = new Checks();
        soft = false;
        limit = FIRST_LIMIT;
        latest = LATEST_NOTHING;
    }

    public int number(long v) throws IllegalStateException {
        demandRoom();
        return nodes.addNumber(v);
    }

    public int real(double v) throws IllegalStateException {
        demandRoom();
        return nodes.addReal(v);
    }

    public int text(long bytes) throws IllegalStateException {
        demandRoom();
        int node = nodes.addNode(TEXT, 0);
        nodes.addLetters(node, bytes);
        return node;
    }

    public int group(int kind, int type) throws IllegalArgumentException, IllegalStateException {
        if (kind != LIST && kind != BAG && kind != RECORD) {
            throw new IllegalArgumentException("there is no such kind of group");
        }
        if (kind == RECORD && (type < 0 || type >= MAX_TYPES)) {
            throw new IllegalArgumentException("there is no such type");
        }
        demandRoom();
        return nodes.addNode(kind, kind == RECORD ? type : 0);
    }

    public boolean put(int node, int name, int value) {
        if (!nodes.isNodeOrNone(value)) {
            return false;
        }
        if (nodes.kindOf(node) == RECORD) {
            return nodes.setField(node, name, value);
        }
        return nodes.isListOrBag(node) && nodes.addMember(node, value);
    }

    public boolean append(int node, long bytes) {
        return nodes.kindOf(node) == TEXT && nodes.addLetters(node, bytes);
    }

    public boolean ignore(int name, boolean ignored) {
        return likeness.setIgnored(name, ignored);
    }

    public boolean rules(boolean types, boolean soft, int limit) {
        if (limit < MIN_LIMIT || limit > MAX_LIMIT) {
            return false;
        }
        likeness.setTypesCount(types);
        this.soft = soft;
        this.limit = limit;
        return true;
    }

    public boolean same(int a, int b) throws IndexOutOfBoundsException {
        demandNodeOrNone(a);
        demandNodeOrNone(b);
        likeness.refresh();
        return likeness.areSame(a, b);
    }

    public int difference(int a, int b) throws IndexOutOfBoundsException {
        demandNodeOrNone(a);
        demandNodeOrNone(b);
        likeness.refresh();
        if (likeness.areSame(a, b)) {
            latest = LATEST_NOTHING;
            return NONE;
        }
        pairs.search(likeness, a, b);
        latest = LATEST_DIFFERENCE;
        return pairs.pathLength();
    }

    public int step(int k) throws IndexOutOfBoundsException {
        if (latest == LATEST_DIFFERENCE && pairs.tells(k)) {
            return pairs.told(k);
        }
        if (latest == LATEST_WAY && rows.tells(k)) {
            return rows.told(k);
        }
        throw new IndexOutOfBoundsException("there is no such step");
    }

    public int shown(int node, int k) throws IndexOutOfBoundsException {
        demandNodeOrNone(node);
        line.write(nodes, node, limit);
        if (k == NONE) {
            return line.size();
        }
        if (!line.hasLetter(k)) {
            throw new IndexOutOfBoundsException("there is no such character");
        }
        return line.letterAt(k);
    }

    public int way(int from, int to) throws IllegalArgumentException {
        int kind = nodes.kindOf(from);
        if (kind != nodes.kindOf(to) || (kind != LIST && kind != TEXT)) {
            throw new IllegalArgumentException("these are not two lists or two texts");
        }
        likeness.refresh();
        rows.walk(likeness, from, to);
        latest = LATEST_WAY;
        return rows.size();
    }

    public int condition(int kind, int a, int b)
            throws IllegalArgumentException, IllegalStateException {
        if (!conditions.canBeMade(nodes, kind, a, b)) {
            throw new IllegalArgumentException("there is no such condition");
        }
        if (conditions.isFull()) {
            throw new IllegalStateException("there are 64 conditions");
        }
        return conditions.make(kind, a, b);
    }

    public boolean holds(int condition, int node) throws IndexOutOfBoundsException {
        demandCondition(condition);
        demandNodeOrNone(node);
        likeness.refresh();
        return conditions.decide(likeness, condition, node);
    }

    public boolean check(int condition, int node)
            throws IndexOutOfBoundsException, IllegalStateException {
        demandCondition(condition);
        demandNodeOrNone(node);
        if (checks.areIdle()) {
            return true;
        }
        likeness.refresh();
        if (conditions.decide(likeness, condition, node)) {
            checks.addHeld();
            return true;
        }
        conditions.traceCause(nodes, condition, node);
        checks.setLatest(conditions.causeCondition(), conditions.causeNode());
        if (!soft) {
            throw new IllegalStateException("the node does not hold");
        }
        checks.addFailure();
        return false;
    }

    public boolean assume(int condition, int node) throws IndexOutOfBoundsException {
        demandCondition(condition);
        demandNodeOrNone(node);
        likeness.refresh();
        boolean held = conditions.decide(likeness, condition, node);
        if (!held) {
            checks.becomeIdle();
        }
        return held;
    }

    public int cause(int k, int which) throws IndexOutOfBoundsException {
        if (!checks.hasCause(k)) {
            throw new IndexOutOfBoundsException("there is no such cause");
        }
        if (which != 0 && which != 1) {
            throw new IndexOutOfBoundsException("a cause has a condition (0) and a node (1)");
        }
        return which == 0 ? checks.conditionOf(k) : checks.nodeOf(k);
    }

    public int settle() throws UnsupportedOperationException {
        int held = checks.held();
        boolean failed = checks.failures() > 0;
        checks.begin();
        if (failed) {
            throw new UnsupportedOperationException("some checks failed");
        }
        return held;
    }

    public int count(int what) {
        switch (what) {
            case 0:
                return nodes.size();
            case 1:
                return conditions.size();
            case 2:
                return checks.noted();
            case 3:
                return checks.failures();
            case 4:
                return checks.areIdle() ? 1 : 0;
            case 5:
                likeness.refresh();
                return likeness.sortCount();
            default:
                return NONE;
        }
    }

    private void demandRoom() {
        if (nodes.isFull()) {
            throw new IllegalStateException("there are 64 nodes");
        }
    }

    private void demandNodeOrNone(int node) {
        if (!nodes.isNodeOrNone(node)) {
            throw new IndexOutOfBoundsException("there is no such node");
        }
    }

    private void demandCondition(int condition) {
        if (!conditions.isCondition(condition)) {
            throw new IndexOutOfBoundsException("there is no such condition");
        }
    }

    private static boolean isName(int name) {
        return name >= 0 && name < MAX_NAMES;
    }

    /** The nodes, each a number from 0 on, and what they are made of. */
    private static final class Nodes {
        private static final long REAL_BOUND = 1L << 60;

        private final int[] kinds = new int[MAX_NODES];
        private final int[] types = new int[MAX_NODES];
        private final long[] longs = new long[MAX_NODES];
        private final double[] doubles = new double[MAX_NODES];
        private final char[] letters = new char[MAX_NODES * MAX_LETTERS];
        /** A list's and a bag's members by their places, a record's fields by their names. */
        private final int[] parts = new int[MAX_NODES * MAX_NAMES];
        private final int[] sizes = new int[MAX_NODES];
        private int used;
        private int changes;

        int size() {
            return used;
        }

        /** Grows with each change, so that a reader can tell whether what it knows is old. */
        int changes() {
            return changes;
        }

        boolean isFull() {
            return used >= MAX_NODES;
        }

        boolean isNode(int node) {
            return node >= 0 && node < used && node < MAX_NODES;
        }

        boolean isNodeOrNone(int node) {
            return node == NONE || isNode(node);
        }

        boolean isListOrBag(int node) {
            int kind = kindOf(node);
            return kind == LIST || kind == BAG;
        }

        boolean isNumeric(int node) {
            int kind = kindOf(node);
            return kind == NUMBER || kind == REAL;
        }

        int kindOf(int node) {
            return node >= 0 && node < used && node < MAX_NODES ? kinds[node] : NONE;
        }

        int typeOf(int node) {
            return node >= 0 && node < MAX_NODES ? types[node] : 0;
        }

        long longOf(int node) {
            return node >= 0 && node < MAX_NODES ? longs[node] : 0L;
        }

        /** A number's or a real's value as a double. */
        double doubleOf(int node) {
            if (node < 0 || node >= MAX_NODES) {
                return 0.0;
            }
            return kinds[node] == NUMBER ? (double) longs[node] : doubles[node];
        }

        /** How many members, fields or characters; 0 for what has none of these. */
        int sizeOf(int node) {
            return node >= 0 && node < MAX_NODES ? sizes[node] : 0;
        }

        char letterAt(int node, int k) {
            if (node < 0 || node >= MAX_NODES || k < 0 || k >= MAX_LETTERS) {
                return 0;
            }
            return letters[node * MAX_LETTERS + k];
        }

        /** A list's or bag's member k, a record's field of name k, or ABSENT. */
        int partAt(int node, int k) {
            if (node < 0 || node >= used || node >= MAX_NODES || k < 0 || k >= MAX_NAMES) {
                return ABSENT;
            }
            return parts[node * MAX_NAMES + k];
        }

        boolean hasPart(int node, int k) {
            return partAt(node, k) != ABSENT;
        }

        /** A new node without parts; NONE, and nothing new, if there is no room. */
        int addNode(int kind, int type) {
            if (isFull()) {
                return NONE;
            }
            int node = used;
            kinds[node] = kind;
            types[node] = type;
            for (int k = 0; k < MAX_NAMES; k++) {
                parts[node * MAX_NAMES + k] = ABSENT;
            }
            used++;
            changes++;
            return node;
        }

        int addNumber(long v) {
            int node = addNode(NUMBER, 0);
            if (isNode(node)) {
                longs[node] = v;
            }
            return node;
        }

        int addReal(double v) {
            int node = addNode(REAL, 0);
            if (isNode(node)) {
                // Others are never told; as 0.0 they can't make a NaN in later reckoning.
                boolean isTold = v > (double) -REAL_BOUND && v < (double) REAL_BOUND;
                doubles[node] = isTold ? v : 0.0;
            }
            return node;
        }

        /** Gives a text the bytes that are not 0; false, and nothing new, if they are too many. */
        boolean addLetters(int node, long bytes) {
            if (!isNode(node) || sizes[node] + lettersIn(bytes) > MAX_LETTERS) {
                return false;
            }
            for (int shift = 56; shift >= 0; shift -= 8) {
                int letter = (int) (bytes >>> shift) & 255;
                if (letter != 0 && sizes[node] < MAX_LETTERS) {
                    letters[node * MAX_LETTERS + sizes[node]] = (char) letter;
                    sizes[node]++;
                }
            }
            changes++;
            return true;
        }

        private static int lettersIn(long bytes) {
            int found = 0;
            for (int shift = 56; shift >= 0; shift -= 8) {
                if (((bytes >>> shift) & 255L) != 0L) {
                    found++;
                }
            }
            return found;
        }

        /** Gives a list or bag a member; false if it is full. */
        boolean addMember(int node, int value) {
            if (!isNode(node) || sizes[node] >= MAX_MEMBERS) {
                return false;
            }
            parts[node * MAX_NAMES + sizes[node]] = value;
            sizes[node]++;
            changes++;
            return true;
        }

        /** Gives a record a field, or another value to the one of that name; false if it is no name. */
        boolean setField(int node, int name, int value) {
            if (!isNode(node) || !isName(name)) {
                return false;
            }
            if (!hasPart(node, name)) {
                sizes[node]++;
            }
            parts[node * MAX_NAMES + name] = value;
            changes++;
            return true;
        }
    }

    /**
     * Which nodes are same: each node is of a sort, and those of one sort are same.
     * All nodes begin as one sort, and sorts are split until no split is left to be made:
     * so the relation is the greatest one, and what can't be told apart in rings is same.
     */
    private static final class Likeness {
        private static final int SORT_OF_NONE = 0;

        final Nodes nodes = new Nodes();
        private final boolean[] ignored = new boolean[MAX_NAMES];
        private final int[] sorts = new int[MAX_NODES];
        private final int[] finerSorts = new int[MAX_NODES];
        private int sortCount;
        private boolean typesCount = true;
        private boolean isOld = true;
        private int changesKnown;

        int sortCount() {
            return sortCount;
        }

        void setTypesCount(boolean typesCount) {
            this.typesCount = typesCount;
            isOld = true;
        }

        boolean isIgnored(int name) {
            return name >= 0 && name < MAX_NAMES && ignored[name];
        }

        boolean setIgnored(int name, boolean isIgnored) {
            if (!isName(name)) {
                return false;
            }
            ignored[name] = isIgnored;
            isOld = true;
            return true;
        }

        /** Whether two are same, as it was at the latest refresh(). */
        boolean areSame(int a, int b) {
            return sortOf(a) == sortOf(b);
        }

        int sortOf(int node) {
            return node >= 0 && node < MAX_NODES ? sorts[node] : SORT_OF_NONE;
        }

        /** Finds the sorts anew if anything has changed since they were found. */
        void refresh() {
            if (!isOld && changesKnown == nodes.changes()) {
                return;
            }
            for (int node = 0; node < MAX_NODES; node++) {
                sorts[node] = SORT_OF_NONE + 1;
            }
            sortCount = 0;
            boolean isSplit = true;
            // A split makes at least one sort more, and there are no more sorts than nodes.
            for (int round = 0; isSplit && round <= MAX_NODES; round++) {
                int before = sortCount;
                splitSorts();
                isSplit = sortCount > before;
            }
            isOld = false;
            changesKnown = nodes.changes();
        }

        private void splitSorts() {
            int nodeCount = Math.min(nodes.size(), MAX_NODES);
            int found = 0;
            for (int node = 0; node < nodeCount; node++) {
                int first = 0;
                while (first < node && !(areSame(first, node) && areAlike(first, node))) {
                    first++;
                }
                if (first < node) {
                    finerSorts[node] = finerSorts[first];
                } else {
                    found++;
                    finerSorts[node] = SORT_OF_NONE + found;
                }
            }
            for (int node = 0; node < nodeCount; node++) {
                sorts[node] = finerSorts[node];
            }
            sortCount = found;
        }

        /** Whether two are same if their parts are same just as the sorts now say. */
        private boolean areAlike(int a, int b) {
            int kind = nodes.kindOf(a);
            if (kind != nodes.kindOf(b)) {
                return false;
            }
            switch (kind) {
                case NUMBER:
                    return nodes.longOf(a) == nodes.longOf(b);
                case REAL:
                    return nodes.doubleOf(a) == nodes.doubleOf(b);
                case TEXT:
                    return haveSameLetters(a, b);
                case LIST:
                    return haveSameMembers(a, b);
                case BAG:
                    return nodes.sizeOf(a) == nodes.sizeOf(b) && hasMembersOf(a, b);
                default:
                    return haveSameFields(a, b);
            }
        }

        private boolean haveSameLetters(int a, int b) {
            int size = nodes.sizeOf(a);
            if (size != nodes.sizeOf(b)) {
                return false;
            }
            for (int k = 0; k < size; k++) {
                if (nodes.letterAt(a, k) != nodes.letterAt(b, k)) {
                    return false;
                }
            }
            return true;
        }

        private boolean haveSameMembers(int a, int b) {
            int size = nodes.sizeOf(a);
            if (size != nodes.sizeOf(b)) {
                return false;
            }
            for (int k = 0; k < size; k++) {
                if (!areSame(nodes.partAt(a, k), nodes.partAt(b, k))) {
                    return false;
                }
            }
            return true;
        }

        /**
         * Whether b's members can be put in pairs with different members of a that are same.
         * They can just if a has as many members of each sort as b, or more.
         */
        boolean hasMembersOf(int a, int b) {
            int size = nodes.sizeOf(b);
            for (int k = 0; k < size; k++) {
                int sort = sortOf(nodes.partAt(b, k));
                if (membersOfSort(a, sort) < membersOfSort(b, sort)) {
                    return false;
                }
            }
            return true;
        }

        private int membersOfSort(int node, int sort) {
            int size = nodes.sizeOf(node);
            int found = 0;
            for (int k = 0; k < size; k++) {
                if (sortOf(nodes.partAt(node, k)) == sort) {
                    found++;
                }
            }
            return found;
        }

        private boolean haveSameFields(int a, int b) {
            if (haveDifferentTypes(a, b)) {
                return false;
            }
            for (int name = 0; name < MAX_NAMES; name++) {
                int left = nodes.partAt(a, name);
                int right = nodes.partAt(b, name);
                boolean areAlike = (left == ABSENT) == (right == ABSENT) && areSame(left, right);
                if (!areAlike && !isIgnored(name)) {
                    return false;
                }
            }
            return true;
        }

        boolean haveDifferentTypes(int a, int b) {
            return typesCount && nodes.typeOf(a) != nodes.typeOf(b);
        }

        /** The least name, not ignored, of which just one of two records has a field, or NONE. */
        int nameOfOneAlone(int a, int b) {
            for (int name = 0; name < MAX_NAMES; name++) {
                if (!isIgnored(name) && nodes.hasPart(a, name) != nodes.hasPart(b, name)) {
                    return name;
                }
            }
            return NONE;
        }
    }

    /**
     * The search for the difference of two nodes. Pairs of nodes are looked at in the order
     * in which they were met, and the parts of a pair are met by rising steps: so the first
     * pair with a reason is at the end of the shortest path, and of the least one of these.
     */
    private static final class Pairs {
        private static final int SIDES = MAX_NODES + 1;
        private static final int MAX_PAIRS = SIDES * SIDES;
        private static final int ASK_REASON = NONE;
        private static final int ASK_NAME = -2;

        private static final int NO_REASON = 0;
        private static final int REASON_NONE = 1;
        private static final int REASON_KINDS = 2;
        private static final int REASON_VALUES = 3;
        private static final int REASON_LENGTHS = 4;
        private static final int REASON_BAGS = 5;
        private static final int REASON_TYPES = 6;
        private static final int REASON_FIELDS = 7;

        /** The pairs that were met, the places here of those they were met from, and the steps. */
        private final int[] queue = new int[MAX_PAIRS];
        private final int[] origins = new int[MAX_PAIRS];
        private final int[] stepsTaken = new int[MAX_PAIRS];
        private int queued;
        /** The search in which a pair was met last: so nothing need be wiped before a search. */
        private final int[] metIn = new int[MAX_PAIRS];
        private int searches;
        private int end;
        private int pathLength;
        private int reason;
        private int name;

        int pathLength() {
            return pathLength;
        }

        boolean tells(int k) {
            return k == ASK_REASON || k == ASK_NAME || (k >= 0 && k < pathLength);
        }

        int told(int k) {
            if (k == ASK_REASON) {
                return reason;
            }
            return k == ASK_NAME ? name : pathStep(k);
        }

        private int pathStep(int k) {
            int place = end;
            for (int later = pathLength - 1; later > k; later--) {
                place = originOf(place);
            }
            return isQueued(place) ? stepsTaken[place] : NONE;
        }

        private boolean isQueued(int place) {
            return place >= 0 && place < queued && place < MAX_PAIRS;
        }

        private int originOf(int place) {
            return isQueued(place) ? origins[place] : NONE;
        }

        /** Searches the difference of two that are not same. */
        void search(Likeness likeness, int a, int b) {
            searches++;
            queued = 0;
            end = NONE;
            reason = NO_REASON;
            meet(a, b, NONE, NONE);
            for (int place = 0; reason == NO_REASON && place < queued && place < MAX_PAIRS; place++) {
                int left = queue[place] / SIDES - 1;
                int right = queue[place] % SIDES - 1;
                reason = reasonOf(likeness, left, right);
                if (reason == NO_REASON) {
                    meetParts(likeness, left, right, place);
                } else {
                    end = place;
                    name = reason == REASON_FIELDS ? likeness.nameOfOneAlone(left, right) : NONE;
                }
            }
            measurePath();
        }

        private void measurePath() {
            pathLength = 0;
            int place = originOf(end);
            while (place >= 0 && pathLength < MAX_PAIRS) {
                pathLength++;
                place = originOf(place);
            }
        }

        private void meet(int left, int right, int origin, int stepTaken) {
            int pair = (left + 1) * SIDES + right + 1;
            if (pair < 0 || pair >= MAX_PAIRS || queued >= MAX_PAIRS || metIn[pair] == searches) {
                return;
            }
            metIn[pair] = searches;
            queue[queued] = pair;
            origins[queued] = origin;
            stepsTaken[queued] = stepTaken;
            queued++;
        }

        /** Meets the parts that both have and that are not same: same ones lead to no reason. */
        private void meetParts(Likeness likeness, int left, int right, int origin) {
            Nodes nodes = likeness.nodes;
            boolean areRecords = nodes.kindOf(left) == RECORD;
            for (int k = 0; k < MAX_NAMES; k++) {
                boolean isStep = nodes.hasPart(left, k) && nodes.hasPart(right, k)
                        && !(areRecords && likeness.isIgnored(k));
                if (isStep && !likeness.areSame(nodes.partAt(left, k), nodes.partAt(right, k))) {
                    meet(nodes.partAt(left, k), nodes.partAt(right, k), origin, k);
                }
            }
        }

        /** The reason of two that are not same, or NO_REASON if it can't be told at once. */
        private static int reasonOf(Likeness likeness, int a, int b) {
            Nodes nodes = likeness.nodes;
            int kind = nodes.kindOf(a);
            if (kind == NONE || nodes.kindOf(b) == NONE) {
                return REASON_NONE;
            }
            if (kind != nodes.kindOf(b)) {
                return REASON_KINDS;
            }
            switch (kind) {
                case LIST:
                    return nodes.sizeOf(a) != nodes.sizeOf(b) ? REASON_LENGTHS : NO_REASON;
                case BAG:
                    return REASON_BAGS;
                case RECORD:
                    return reasonOfRecords(likeness, a, b);
                default:
                    return REASON_VALUES;
            }
        }

        private static int reasonOfRecords(Likeness likeness, int a, int b) {
            if (likeness.haveDifferentTypes(a, b)) {
                return REASON_TYPES;
            }
            return likeness.nameOfOneAlone(a, b) != NONE ? REASON_FIELDS : NO_REASON;
        }
    }

    /** The row of characters as which a node is shown. */
    private static final class Line {
        private static final int MAX_DIGITS = 20;

        /** One more than any limit: if it is full, the row is too long, whatever the limit. */
        private final char[] letters = new char[MAX_LIMIT + 1];
        private int size;
        private final char[] digits = new char[MAX_DIGITS];
        /** The groups around what is written next, the outermost first. */
        private final int[] around = new int[MAX_NODES];
        /** The place or name in each of them from which on its parts are still to be written. */
        private final int[] nextParts = new int[MAX_NODES];
        private int depth;

        int size() {
            return size;
        }

        boolean hasLetter(int k) {
            return k >= 0 && k < size && k < letters.length;
        }

        int letterAt(int k) {
            return hasLetter(k) ? letters[k] : NONE;
        }

        void write(Nodes nodes, int node, int limit) {
            size = 0;
            depth = 0;
            writeNode(nodes, node);
            // Each turn writes a character at least, so the row is soon whole or too long.
            for (int turn = 0; depth > 0 && size <= limit && turn <= MAX_LIMIT; turn++) {
                writeNextPart(nodes);
            }
            if (size > limit) {
                shorten(limit);
            }
        }

        private void shorten(int limit) {
            size = limit > 3 ? limit - 3 : 0;
            add('.');
            add('.');
            add('.');
        }

        private void add(char letter) {
            if (size >= 0 && size < letters.length) {
                letters[size] = letter;
                size++;
            }
        }

        /** Writes a node, of a group that is not within itself the beginning alone. */
        private void writeNode(Nodes nodes, int node) {
            switch (nodes.kindOf(node)) {
                case NONE:
                    writeNone();
                    break;
                case NUMBER:
                    writeLong(nodes.longOf(node));
                    break;
                case REAL:
                    writeReal(nodes.doubleOf(node));
                    break;
                case TEXT:
                    writeText(nodes, node);
                    break;
                default:
                    writeGroup(nodes, node);
                    break;
            }
        }

        private void writeNone() {
            add('n');
            add('o');
            add('n');
            add('e');
        }

        private void writeLong(long v) {
            if (v < 0L) {
                add('-');
            }
            // Below 0 there is room for each long, above 0 not for the least one's opposite.
            long rest = v < 0L ? v : -v;
            int used = 0;
            do {
                digits[used] = (char) ('0' - rest % 10L);
                used++;
                rest /= 10L;
            } while (rest != 0L && used < MAX_DIGITS);
            for (int k = used - 1; k >= 0; k--) {
                add(digits[k]);
            }
        }

        /** Writes a multiple of 0.125: as a whole number of eighths it is exact in a long. */
        private void writeReal(double v) {
            long eighths = (long) (v * 8.0);
            if (eighths < 0L) {
                add('-');
            }
            long positive = eighths < 0L ? -eighths : eighths;
            writeLong(positive / 8L);
            add('.');
            int thousandths = (int) (positive % 8L) * 125;
            add((char) ('0' + thousandths / 100));
            add((char) ('0' + thousandths / 10 % 10));
            add((char) ('0' + thousandths % 10));
        }

        private void writeText(Nodes nodes, int node) {
            int letterCount = nodes.sizeOf(node);
            add('"');
            for (int k = 0; k < letterCount; k++) {
                char letter = nodes.letterAt(node, k);
                if (letter == '"' || letter == '\\') {
                    add('\\');
                }
                add(letter);
            }
            add('"');
        }

        private void writeGroup(Nodes nodes, int node) {
            int further = groupsOutTo(node);
            if (further > 0) {
                add('^');
                writeLong(further);
                return;
            }
            switch (nodes.kindOf(node)) {
                case LIST:
                    add('[');
                    break;
                case BAG:
                    add('{');
                    break;
                default:
                    add('T');
                    writeLong(nodes.typeOf(node));
                    add('(');
                    break;
            }
            enter(node);
        }

        /** How many groups further out a group is, or 0 if it is not around. */
        private int groupsOutTo(int node) {
            for (int k = depth - 1; k >= 0 && k < MAX_NODES; k--) {
                if (around[k] == node) {
                    return depth - k;
                }
            }
            return 0;
        }

        private void enter(int node) {
            if (depth >= 0 && depth < MAX_NODES) {
                around[depth] = node;
                nextParts[depth] = 0;
                depth++;
            }
        }

        /** Writes the next part of the innermost group, or its end if none is left. */
        private void writeNextPart(Nodes nodes) {
            int innermost = depth - 1;
            if (innermost < 0 || innermost >= MAX_NODES) {
                return;
            }
            int node = around[innermost];
            int first = nextParts[innermost];
            int k = first;
            while (k < MAX_NAMES && !nodes.hasPart(node, k)) {
                k++;
            }
            if (k >= MAX_NAMES) {
                writeEnd(nodes.kindOf(node));
                depth--;
                return;
            }
            nextParts[innermost] = k + 1;
            if (first > 0) {
                add(',');
                add(' ');
            }
            if (nodes.kindOf(node) == RECORD) {
                add('n');
                writeLong(k);
                add('=');
            }
            writeNode(nodes, nodes.partAt(node, k));
        }

        private void writeEnd(int kind) {
            switch (kind) {
                case LIST:
                    add(']');
                    break;
                case BAG:
                    add('}');
                    break;
                default:
                    add(')');
                    break;
            }
        }
    }

    /** The shortest way from one row to another, of a list's members or a text's characters. */
    private static final class Rows {
        private static final int KEEP = 0;
        private static final int DROP = 1;
        private static final int ADD = 2;
        private static final int ASK_COST = NONE;
        private static final int SIDES = MAX_LETTERS + 1;

        /** What is equal in the rows is equal here: characters, or the sorts of the members. */
        private final int[] from = new int[MAX_LETTERS];
        private final int[] to = new int[MAX_LETTERS];
        private int fromSize;
        private int toSize;
        /** The fewest steps, not KEEP, from place i of the one and j of the other to the end. */
        private final int[] costs = new int[SIDES * SIDES];
        private final int[] stepsTaken = new int[2 * MAX_LETTERS];
        private int taken;

        int size() {
            return taken;
        }

        boolean tells(int k) {
            return k == ASK_COST || (k >= 0 && k < taken && k < stepsTaken.length);
        }

        int told(int k) {
            if (k == ASK_COST) {
                return costAt(0, 0);
            }
            return tells(k) ? stepsTaken[k] : NONE;
        }

        void walk(Likeness likeness, int fromNode, int toNode) {
            fromSize = copyRow(likeness, fromNode, from);
            toSize = copyRow(likeness, toNode, to);
            reckonCosts();
            takeSteps();
        }

        private static int copyRow(Likeness likeness, int node, int[] row) {
            Nodes nodes = likeness.nodes;
            boolean isText = nodes.kindOf(node) == TEXT;
            int size = Math.min(nodes.sizeOf(node), MAX_LETTERS);
            for (int k = 0; k < size && k < row.length; k++) {
                row[k] = isText ? nodes.letterAt(node, k) : likeness.sortOf(nodes.partAt(node, k));
            }
            return size;
        }

        private int costAt(int i, int j) {
            return i >= 0 && i < SIDES && j >= 0 && j < SIDES ? costs[i * SIDES + j] : 0;
        }

        private boolean canKeep(int i, int j) {
            return i >= 0 && i < fromSize && i < MAX_LETTERS
                    && j >= 0 && j < toSize && j < MAX_LETTERS && from[i] == to[j];
        }

        private void reckonCosts() {
            for (int i = Math.min(fromSize, MAX_LETTERS); i >= 0; i--) {
                for (int j = Math.min(toSize, MAX_LETTERS); j >= 0; j--) {
                    costs[i * SIDES + j] = cheapest(i, j);
                }
            }
        }

        private int cheapest(int i, int j) {
            if (i >= fromSize) {
                return toSize - j;
            }
            if (j >= toSize) {
                return fromSize - i;
            }
            if (canKeep(i, j)) {
                return costAt(i + 1, j + 1);
            }
            return 1 + Math.min(costAt(i + 1, j), costAt(i, j + 1));
        }

        private void takeSteps() {
            int i = 0;
            int j = 0;
            taken = 0;
            while ((i < fromSize || j < toSize) && taken < stepsTaken.length) {
                int stepTaken = bestStep(i, j);
                stepsTaken[taken] = stepTaken;
                taken++;
                i += stepTaken == ADD ? 0 : 1;
                j += stepTaken == DROP ? 0 : 1;
            }
        }

        private int bestStep(int i, int j) {
            if (canKeep(i, j)) {
                return KEEP;
            }
            if (i >= fromSize) {
                return ADD;
            }
            return j >= toSize || costAt(i + 1, j) <= costAt(i, j + 1) ? DROP : ADD;
        }
    }

    /** The conditions, each a number from 0 on and made of lesser ones alone. */
    private static final class Conditions {
        private static final int CELLS = MAX_NODES + 1;
        private static final int UNKNOWN = 0;
        private static final int NEEDED = 1;
        private static final int FAILS = 2;
        private static final int HOLDS = 3;

        private final int[] kinds = new int[MAX_CONDITIONS];
        private final int[] firsts = new int[MAX_CONDITIONS];
        private final int[] seconds = new int[MAX_CONDITIONS];
        private int made;
        /** What is known of each condition and each node, NONE too, for the latest question. */
        private final int[] marks = new int[MAX_CONDITIONS * CELLS];
        private int causeCondition;
        private int causeNode;

        int size() {
            return made;
        }

        boolean isFull() {
            return made >= MAX_CONDITIONS;
        }

        boolean isCondition(int condition) {
            return condition >= 0 && condition < made && condition < MAX_CONDITIONS;
        }

        int causeCondition() {
            return causeCondition;
        }

        int causeNode() {
            return causeNode;
        }

        boolean canBeMade(Nodes nodes, int kind, int a, int b) {
            switch (kind) {
                case EQUAL:
                    return nodes.isNodeOrNone(a);
                case LESS:
                case MORE:
                case STARTS:
                case GLOB:
                case HAS:
                    return nodes.isNode(a);
                case NEAR:
                    return nodes.isNode(a) && nodes.isNode(b);
                case SIZE:
                    return a >= 0;
                case KIND:
                    return a >= NONE && a <= RECORD;
                case NOT:
                case EACH:
                case SOME:
                    return isCondition(a);
                case ALL:
                case ANY:
                    return isCondition(a) && isCondition(b);
                case FIELD:
                    return isName(a) && isCondition(b);
                default:
                    return false;
            }
        }

        /** A new condition; NONE, and nothing new, if there is no room. */
        int make(int kind, int a, int b) {
            if (isFull()) {
                return NONE;
            }
            int condition = made;
            kinds[condition] = kind;
            firsts[condition] = a;
            seconds[condition] = b;
            made++;
            return condition;
        }

        /**
         * Whether a node holds. First what is needed is marked, from this condition down to
         * the least one, then it is decided from the least one up: each condition is decided
         * once for each node, however many ways (there may be 12 to the 60th) lead there.
         */
        boolean decide(Likeness likeness, int condition, int node) {
            if (!isCondition(condition)) {
                return false;
            }
            int nodeCount = likeness.nodes.size();
            // Marks of elder questions may stay: what is read now has been marked as needed now.
            need(condition, node);
            for (int c = condition; c >= 0; c--) {
                for (int n = NONE; n < nodeCount; n++) {
                    if (markAt(c, n) == NEEDED) {
                        needParts(likeness.nodes, c, n);
                    }
                }
            }
            for (int c = 0; c <= condition; c++) {
                for (int n = NONE; n < nodeCount; n++) {
                    if (markAt(c, n) == NEEDED) {
                        setMark(c, n, holdsByParts(likeness, c, n) ? HOLDS : FAILS);
                    }
                }
            }
            return markAt(condition, node) == HOLDS;
        }

        private static boolean isCell(int condition, int node) {
            return condition >= 0 && condition < MAX_CONDITIONS && node >= NONE && node < MAX_NODES;
        }

        private int markAt(int condition, int node) {
            return isCell(condition, node) ? marks[condition * CELLS + node + 1] : UNKNOWN;
        }

        private void setMark(int condition, int node, int mark) {
            if (isCell(condition, node)) {
                marks[condition * CELLS + node + 1] = mark;
            }
        }

        private void need(int condition, int node) {
            setMark(condition, node, NEEDED);
        }

        private boolean isKnownToHold(int condition, int node) {
            return markAt(condition, node) == HOLDS;
        }

        private void needParts(Nodes nodes, int condition, int node) {
            if (!isCondition(condition)) {
                return;
            }
            int a = firsts[condition];
            int b = seconds[condition];
            switch (kinds[condition]) {
                case NOT:
                    need(a, node);
                    break;
                case ALL:
                case ANY:
                    need(a, node);
                    need(b, node);
                    break;
                case EACH:
                case SOME:
                    needMembers(nodes, a, node);
                    break;
                case FIELD:
                    if (hasField(nodes, node, a)) {
                        need(b, nodes.partAt(node, a));
                    }
                    break;
                default:
                    break;
            }
        }

        private void needMembers(Nodes nodes, int condition, int node) {
            if (!nodes.isListOrBag(node)) {
                return;
            }
            int size = nodes.sizeOf(node);
            for (int k = 0; k < size; k++) {
                need(condition, nodes.partAt(node, k));
            }
        }

        private static boolean hasField(Nodes nodes, int node, int name) {
            return nodes.kindOf(node) == RECORD && nodes.hasPart(node, name);
        }

        /** Whether a node holds, when all that it needs is decided. */
        private boolean holdsByParts(Likeness likeness, int condition, int node) {
            if (!isCondition(condition)) {
                return false;
            }
            Nodes nodes = likeness.nodes;
            int a = firsts[condition];
            int b = seconds[condition];
            switch (kinds[condition]) {
                case NOT:
                    return !isKnownToHold(a, node);
                case ALL:
                    return isKnownToHold(a, node) && isKnownToHold(b, node);
                case ANY:
                    return isKnownToHold(a, node) || isKnownToHold(b, node);
                case EACH:
                    return nodes.isListOrBag(node)
                            && firstMember(nodes, node, a, false) == ABSENT;
                case SOME:
                    return nodes.isListOrBag(node)
                            && firstMember(nodes, node, a, true) != ABSENT;
                case FIELD:
                    return hasField(nodes, node, a) && isKnownToHold(b, nodes.partAt(node, a));
                default:
                    return Leaves.passes(likeness, kinds[condition], a, b, node);
            }
        }

        /** The first member that holds by a condition, or that does not, or ABSENT. */
        private int firstMember(Nodes nodes, int node, int condition, boolean holding) {
            int size = nodes.sizeOf(node);
            for (int k = 0; k < size; k++) {
                int member = nodes.partAt(node, k);
                if (isKnownToHold(condition, member) == holding) {
                    return member;
                }
            }
            return ABSENT;
        }

        /** Finds the cause of a node that does not hold, as decide() has just found. */
        void traceCause(Nodes nodes, int condition, int node) {
            causeCondition = condition;
            causeNode = node;
            // Each turn leads to a lesser condition, so there are no more turns than conditions.
            for (int turn = 0; turn < MAX_CONDITIONS; turn++) {
                if (!traceOneStep(nodes)) {
                    return;
                }
            }
        }

        /** Goes from a cause to what is the cause of it; false if it is the cause itself. */
        private boolean traceOneStep(Nodes nodes) {
            if (!isCondition(causeCondition)) {
                return false;
            }
            int a = firsts[causeCondition];
            int b = seconds[causeCondition];
            switch (kinds[causeCondition]) {
                case ALL:
                    causeCondition = isKnownToHold(a, causeNode) ? b : a;
                    return true;
                case EACH:
                    if (!nodes.isListOrBag(causeNode)) {
                        return false;
                    }
                    causeNode = firstMember(nodes, causeNode, a, false);
                    causeCondition = a;
                    return true;
                case FIELD:
                    if (!hasField(nodes, causeNode, a)) {
                        return false;
                    }
                    causeNode = nodes.partAt(causeNode, a);
                    causeCondition = b;
                    return true;
                default:
                    return false;
            }
        }
    }

    /** The conditions that are made of no others. */
    private static final class Leaves {
        static boolean passes(Likeness likeness, int kind, int a, int b, int node) {
            Nodes nodes = likeness.nodes;
            switch (kind) {
                case EQUAL:
                    return likeness.areSame(node, a);
                case LESS:
                    return isLess(nodes, node, a);
                case MORE:
                    return isLess(nodes, a, node);
                case NEAR:
                    return isNear(nodes, node, a, b);
                case STARTS:
                    return startsWith(nodes, node, a);
                case GLOB:
                    return fits(nodes, node, a);
                case SIZE:
                    return hasSize(nodes, node, a);
                case KIND:
                    return nodes.kindOf(node) == a;
                case HAS:
                    return nodes.isListOrBag(node) && nodes.isListOrBag(a)
                            && likeness.hasMembersOf(node, a);
                default:
                    return false;
            }
        }

        private static boolean isLess(Nodes nodes, int lesser, int greater) {
            if (!nodes.isNumeric(lesser) || !nodes.isNumeric(greater)) {
                return false;
            }
            if (nodes.kindOf(lesser) == NUMBER && nodes.kindOf(greater) == NUMBER) {
                return nodes.longOf(lesser) < nodes.longOf(greater);
            }
            return nodes.doubleOf(lesser) < nodes.doubleOf(greater);
        }

        private static boolean isNear(Nodes nodes, int node, int centre, int distance) {
            if (!nodes.isNumeric(node) || !nodes.isNumeric(centre) || !nodes.isNumeric(distance)) {
                return false;
            }
            double apart = nodes.doubleOf(node) - nodes.doubleOf(centre);
            return (apart < 0.0 ? -apart : apart) <= nodes.doubleOf(distance);
        }

        private static boolean startsWith(Nodes nodes, int node, int beginning) {
            if (nodes.kindOf(node) != TEXT || nodes.kindOf(beginning) != TEXT) {
                return false;
            }
            int size = nodes.sizeOf(beginning);
            if (size > nodes.sizeOf(node)) {
                return false;
            }
            for (int k = 0; k < size; k++) {
                if (nodes.letterAt(node, k) != nodes.letterAt(beginning, k)) {
                    return false;
                }
            }
            return true;
        }

        /**
         * Whether a text fits a pattern. Bit k of 'reached' says that the pattern so far fits
         * the first k characters: a text has at most 40 of them, so the bits of a long suffice.
         */
        private static boolean fits(Nodes nodes, int node, int pattern) {
            if (nodes.kindOf(node) != TEXT || nodes.kindOf(pattern) != TEXT) {
                return false;
            }
            int size = nodes.sizeOf(pattern);
            long reached = 1L;
            for (int k = 0; k < size; k++) {
                reached = reachedBy(nodes, node, nodes.letterAt(pattern, k), reached);
            }
            return (reached >>> nodes.sizeOf(node) & 1L) == 1L;
        }

        private static long reachedBy(Nodes nodes, int node, char wanted, long reached) {
            if (wanted == '*') {
                // From the lowest place that is reached on, all are.
                return -(reached & -reached);
            }
            int size = nodes.sizeOf(node);
            long further = 0L;
            for (int k = 0; k < size; k++) {
                boolean fitsHere = wanted == '?' || wanted == nodes.letterAt(node, k);
                if (fitsHere && (reached >>> k & 1L) == 1L) {
                    further |= 2L << k;
                }
            }
            return further;
        }

        private static boolean hasSize(Nodes nodes, int node, int size) {
            return nodes.kindOf(node) >= TEXT && nodes.sizeOf(node) == size;
        }
    }

    /** What came of the checks since the last settle(), and the latest failure of all. */
    private static final class Checks {
        private final int[] notedConditions = new int[MAX_NOTED];
        private final int[] notedNodes = new int[MAX_NOTED];
        private int noted;
        private int failures;
        private int held;
        private boolean areIdle;
        private boolean hasLatest;
        private int latestCondition;
        private int latestNode;

        int noted() {
            return noted;
        }

        int failures() {
            return failures;
        }

        int held() {
            return held;
        }

        /** Whether an assumption did not hold, so that checks do nothing. */
        boolean areIdle() {
            return areIdle;
        }

        void becomeIdle() {
            areIdle = true;
        }

        void begin() {
            noted = 0;
            failures = 0;
            held = 0;
            areIdle = false;
        }

        void addHeld() {
            held++;
        }

        void setLatest(int condition, int node) {
            hasLatest = true;
            latestCondition = condition;
            latestNode = node;
        }

        /** Counts the latest failure, and notes it if there is room. */
        void addFailure() {
            failures++;
            if (noted < MAX_NOTED) {
                notedConditions[noted] = latestCondition;
                notedNodes[noted] = latestNode;
                noted++;
            }
        }

        private boolean isNoted(int k) {
            return k >= 0 && k < noted && k < MAX_NOTED;
        }

        boolean hasCause(int k) {
            return k == NONE ? hasLatest : isNoted(k);
        }

        int conditionOf(int k) {
            return isNoted(k) ? notedConditions[k] : latestCondition;
        }

        int nodeOf(int k) {
            return isNoted(k) ? notedNodes[k] : latestNode;
        }
    }
}
