import java.util.ArrayList;
import java.util.HashMap;
import java.util.List;
import java.util.Map;
import java.util.TreeMap;

/**
 * What GraphCheck does, done in other, plainer and slower ways, for ModelTest to compare.
 * An exception is answered as a number of its own, so that answers are compared as longs.
 */
final class Model {
    static final long NO_INDEX = 1000001;
    static final long NO_ARGUMENT = 1000002;
    static final long NO_STATE = 1000003;
    static final long NOT_SUPPORTED = 1000004;
    private static final int NONE = -1;

    private static final class Node {
        int kind;
        int type;
        long number;
        double real;
        StringBuilder text = new StringBuilder();
        List<Integer> members = new ArrayList<>();
        TreeMap<Integer, Integer> fields = new TreeMap<>();
    }

    private final List<Node> nodes = new ArrayList<>();
    private final List<int[]> conditions = new ArrayList<>();
    private final boolean[] ignored = new boolean[20];
    private boolean types = true;
    private boolean soft = false;
    private int limit = 200;
    private List<Integer> steps = null;
    private long special = 0;
    private long nameOfReason = NO_INDEX;
    private final List<int[]> causes = new ArrayList<>();
    private int[] latestCause = null;
    private int failures = 0;
    private int held = 0;
    private boolean idle = false;
    private boolean[][] relation;

    private boolean exists(int node) {
        return node >= 0 && node < nodes.size();
    }

    private boolean existsOrNone(int node) {
        return node == NONE || exists(node);
    }

    private int kind(int node) {
        return exists(node) ? nodes.get(node).kind : NONE;
    }

    private long add(Node node, int kind) {
        if (nodes.size() == 64) {
            return NO_STATE;
        }
        node.kind = kind;
        nodes.add(node);
        return nodes.size() - 1;
    }

    long number(long v) {
        Node node = new Node();
        node.number = v;
        return add(node, 0);
    }

    long real(double v) {
        Node node = new Node();
        node.real = v;
        return add(node, 1);
    }

    long text(long bytes) {
        Node node = new Node();
        node.text.append(letters(bytes));
        return add(node, 2);
    }

    private static String letters(long bytes) {
        String row = "";
        for (int k = 0; k < 8; k++) {
            char letter = (char) (bytes & 255);
            row = letter == 0 ? row : letter + row;
            bytes = bytes >>> 8;
        }
        return row;
    }

    long group(int kind, int type) {
        if (kind < 3 || kind > 5 || (kind == 5 && (type < 0 || type > 9))) {
            return NO_ARGUMENT;
        }
        Node node = new Node();
        node.type = type;
        return add(node, kind);
    }

    long put(int node, int name, int value) {
        if (kind(node) < 3 || !existsOrNone(value)) {
            return 0;
        }
        Node to = nodes.get(node);
        if (to.kind == 5) {
            if (name < 0 || name > 19) {
                return 0;
            }
            to.fields.put(name, value);
            return 1;
        }
        return to.members.size() < 12 && to.members.add(value) ? 1 : 0;
    }

    long append(int node, long bytes) {
        if (kind(node) != 2 || nodes.get(node).text.length() + letters(bytes).length() > 40) {
            return 0;
        }
        nodes.get(node).text.append(letters(bytes));
        return 1;
    }

    long ignore(int name, boolean isIgnored) {
        if (name < 0 || name > 19) {
            return 0;
        }
        ignored[name] = isIgnored;
        return 1;
    }

    long rules(boolean types, boolean soft, int limit) {
        if (limit < 3 || limit > 1000) {
            return 0;
        }
        this.types = types;
        this.soft = soft;
        this.limit = limit;
        return 1;
    }

    /** The greatest relation: all pairs, less those that are found not to be in it, one by one. */
    private void relate() {
        int size = nodes.size() + 1;
        relation = new boolean[size][size];
        for (boolean[] row : relation) {
            java.util.Arrays.fill(row, true);
        }
        boolean isChanged = true;
        while (isChanged) {
            isChanged = false;
            for (int a = NONE; a < nodes.size(); a++) {
                for (int b = NONE; b < nodes.size(); b++) {
                    if (related(a, b) && !mayBeSame(a, b)) {
                        relation[a + 1][b + 1] = false;
                        isChanged = true;
                    }
                }
            }
        }
    }

    private boolean related(int a, int b) {
        return relation[a + 1][b + 1];
    }

    private boolean mayBeSame(int a, int b) {
        if (a == NONE || b == NONE) {
            return a == b;
        }
        Node x = nodes.get(a);
        Node y = nodes.get(b);
        if (x.kind != y.kind) {
            return false;
        }
        if (x.kind <= 2) {
            return x.number == y.number && x.real == y.real && x.text.toString().equals(y.text.toString());
        }
        if (x.kind == 5) {
            return (!types || x.type == y.type) && fieldsMayBeSame(x, y);
        }
        if (x.members.size() != y.members.size()) {
            return false;
        }
        return x.kind == 4 ? paired(y.members, x.members) : membersMayBeSame(x, y);
    }

    private boolean membersMayBeSame(Node x, Node y) {
        for (int k = 0; k < x.members.size(); k++) {
            if (!related(x.members.get(k), y.members.get(k))) {
                return false;
            }
        }
        return true;
    }

    private boolean fieldsMayBeSame(Node x, Node y) {
        for (int name = 0; name < 20; name++) {
            Integer left = x.fields.get(name);
            Integer right = y.fields.get(name);
            boolean alike = left == null || right == null ? left == right : related(left, right);
            if (!ignored[name] && !alike) {
                return false;
            }
        }
        return true;
    }

    /** Whether each of some can be put in a pair with a different one of others, by augmenting. */
    private boolean paired(List<Integer> some, List<Integer> others) {
        int[] partner = new int[others.size()];
        java.util.Arrays.fill(partner, -1);
        for (int k = 0; k < some.size(); k++) {
            if (!findsPartner(k, some, others, partner, new boolean[others.size()])) {
                return false;
            }
        }
        return true;
    }

    private boolean findsPartner(int k, List<Integer> some, List<Integer> others, int[] partner, boolean[] tried) {
        for (int j = 0; j < others.size(); j++) {
            if (!tried[j] && related(others.get(j), some.get(k))) {
                tried[j] = true;
                if (partner[j] < 0 || findsPartner(partner[j], some, others, partner, tried)) {
                    partner[j] = k;
                    return true;
                }
            }
        }
        return false;
    }

    long same(int a, int b) {
        if (!existsOrNone(a) || !existsOrNone(b)) {
            return NO_INDEX;
        }
        relate();
        return related(a, b) ? 1 : 0;
    }

    long difference(int a, int b) {
        if (!existsOrNone(a) || !existsOrNone(b)) {
            return NO_INDEX;
        }
        relate();
        steps = null;
        special = NO_INDEX;
        nameOfReason = NO_INDEX;
        if (related(a, b)) {
            return NONE;
        }
        steps = new ArrayList<>();
        Map<List<Integer>, Integer> known = new HashMap<>();
        int length = 0;
        while (!leads(a, b, length, known)) {
            length++;
        }
        follow(a, b, length, known);
        return length;
    }

    /** Whether a path of just so many steps leads to a reason (known: 0 no, 1 yes). */
    private boolean leads(int a, int b, int length, Map<List<Integer>, Integer> known) {
        if (length == 0) {
            return reason(a, b) != 0;
        }
        List<Integer> key = List.of(a, b, length);
        if (!known.containsKey(key)) {
            int found = 0;
            for (int[] part : commonParts(a, b)) {
                if (found == 0 && leads(part[1], part[2], length - 1, known)) {
                    found = 1;
                }
            }
            known.put(key, found);
        }
        return known.get(key) == 1;
    }

    private void follow(int a, int b, int length, Map<List<Integer>, Integer> known) {
        if (length == 0) {
            special = reason(a, b);
            nameOfReason = special == 7 ? nameOfOneAlone(nodes.get(a), nodes.get(b)) : NONE;
            return;
        }
        for (int[] part : commonParts(a, b)) {
            if (leads(part[1], part[2], length - 1, known)) {
                steps.add(part[0]);
                follow(part[1], part[2], length - 1, known);
                return;
            }
        }
    }

    private List<int[]> commonParts(int a, int b) {
        List<int[]> parts = new ArrayList<>();
        if (kind(a) == 3 && kind(b) == 3) {
            List<Integer> left = nodes.get(a).members;
            List<Integer> right = nodes.get(b).members;
            for (int k = 0; k < Math.min(left.size(), right.size()); k++) {
                parts.add(new int[] {k, left.get(k), right.get(k)});
            }
        }
        if (kind(a) == 5 && kind(b) == 5) {
            for (int name : nodes.get(a).fields.keySet()) {
                if (!ignored[name] && nodes.get(b).fields.containsKey(name)) {
                    parts.add(new int[] {name, nodes.get(a).fields.get(name), nodes.get(b).fields.get(name)});
                }
            }
        }
        return parts;
    }

    private int reason(int a, int b) {
        if (related(a, b)) {
            return 0;
        }
        if (a == NONE || b == NONE) {
            return 1;
        }
        Node x = nodes.get(a);
        Node y = nodes.get(b);
        if (x.kind != y.kind) {
            return 2;
        }
        if (x.kind < 3) {
            return 3;
        }
        if (x.kind == 3) {
            return x.members.size() != y.members.size() ? 4 : 0;
        }
        if (x.kind == 4) {
            return 5;
        }
        if (types && x.type != y.type) {
            return 6;
        }
        return nameOfOneAlone(x, y) != NONE ? 7 : 0;
    }

    private int nameOfOneAlone(Node x, Node y) {
        for (int name = 0; name < 20; name++) {
            if (!ignored[name] && x.fields.containsKey(name) != y.fields.containsKey(name)) {
                return name;
            }
        }
        return NONE;
    }

    long step(int k) {
        if (steps == null) {
            return NO_INDEX;
        }
        if (k == NONE) {
            return special;
        }
        if (k == -2) {
            return nameOfReason;
        }
        return k >= 0 && k < steps.size() ? steps.get(k) : NO_INDEX;
    }

    long shown(int node, int k) {
        if (!existsOrNone(node)) {
            return NO_INDEX;
        }
        StringBuilder row = new StringBuilder();
        show(node, new ArrayList<>(), row);
        if (row.length() > limit) {
            row.setLength(limit - 3);
            row.append("...");
        }
        if (k == NONE) {
            return row.length();
        }
        return k >= 0 && k < row.length() ? row.charAt(k) : NO_INDEX;
    }

    private void show(int at, List<Integer> around, StringBuilder row) {
        if (row.length() > 1000) {
            return;
        }
        if (at == NONE) {
            row.append("none");
            return;
        }
        Node node = nodes.get(at);
        if (node.kind == 0) {
            row.append(node.number);
        } else if (node.kind == 1) {
            String digits = new java.math.BigDecimal(node.real).setScale(3).toPlainString();
            row.append(digits);
        } else if (node.kind == 2) {
            row.append('"').append(node.text.toString().replace("\\", "\\\\").replace("\"", "\\\"")).append('"');
        } else if (around.contains(at)) {
            row.append('^').append(around.size() - around.indexOf(at));
        } else {
            around.add(at);
            showParts(node, around, row);
            around.remove(around.size() - 1);
        }
    }

    private void showParts(Node node, List<Integer> around, StringBuilder row) {
        row.append(node.kind == 3 ? "[" : node.kind == 4 ? "{" : "T" + node.type + "(");
        String between = "";
        for (int member : node.members) {
            row.append(between);
            show(member, around, row);
            between = ", ";
        }
        for (int name : node.fields.keySet()) {
            row.append(between).append("n").append(name).append("=");
            show(node.fields.get(name), around, row);
            between = ", ";
        }
        row.append(node.kind == 3 ? "]" : node.kind == 4 ? "}" : ")");
    }

    long way(int from, int to) {
        if (kind(from) != kind(to) || (kind(from) != 2 && kind(from) != 3)) {
            return NO_ARGUMENT;
        }
        relate();
        String best = bestWay(from, to, 0, 0, new HashMap<>());
        steps = new ArrayList<>();
        special = 0;
        nameOfReason = NO_INDEX;
        for (char letter : best.toCharArray()) {
            steps.add(letter - '0');
            special += letter == '0' ? 0 : 1;
        }
        return best.length();
    }

    /** The way as a word of 0, 1 and 2: of the words with the fewest 1 and 2, the least one. */
    private String bestWay(int from, int to, int i, int j, Map<Integer, String> known) {
        if (known.containsKey(i * 100 + j)) {
            return known.get(i * 100 + j);
        }
        int fromSize = rowSize(from);
        int toSize = rowSize(to);
        String best = i == fromSize && j == toSize ? "" : null;
        if (i < fromSize && j < toSize && rowsAgree(from, to, i, j)) {
            best = better(best, "0" + bestWay(from, to, i + 1, j + 1, known));
        }
        if (i < fromSize) {
            best = better(best, "1" + bestWay(from, to, i + 1, j, known));
        }
        if (j < toSize) {
            best = better(best, "2" + bestWay(from, to, i, j + 1, known));
        }
        known.put(i * 100 + j, best);
        return best;
    }

    private int rowSize(int node) {
        Node n = nodes.get(node);
        return n.kind == 2 ? n.text.length() : n.members.size();
    }

    private boolean rowsAgree(int from, int to, int i, int j) {
        Node x = nodes.get(from);
        Node y = nodes.get(to);
        return x.kind == 2 ? x.text.charAt(i) == y.text.charAt(j) : related(x.members.get(i), y.members.get(j));
    }

    private static String better(String one, String other) {
        if (one == null) {
            return other;
        }
        int oneCost = one.replace("0", "").length();
        int otherCost = other.replace("0", "").length();
        if (oneCost != otherCost) {
            return oneCost < otherCost ? one : other;
        }
        return one.compareTo(other) <= 0 ? one : other;
    }

    private boolean isCondition(int c) {
        return c >= 0 && c < conditions.size();
    }

    long condition(int kind, int a, int b) {
        boolean isFine;
        if (kind == 0) {
            isFine = existsOrNone(a);
        } else if (kind == 3) {
            isFine = exists(a) && exists(b);
        } else if (kind == 1 || kind == 2 || kind == 4 || kind == 5 || kind == 14) {
            isFine = exists(a);
        } else if (kind == 6) {
            isFine = a >= 0;
        } else if (kind == 7) {
            isFine = a >= -1 && a <= 5;
        } else if (kind == 9 || kind == 10) {
            isFine = isCondition(a) && isCondition(b);
        } else if (kind == 13) {
            isFine = a >= 0 && a <= 19 && isCondition(b);
        } else {
            isFine = (kind == 8 || kind == 11 || kind == 12) && isCondition(a);
        }
        if (!isFine) {
            return NO_ARGUMENT;
        }
        if (conditions.size() == 64) {
            return NO_STATE;
        }
        conditions.add(new int[] {kind, a, b});
        return conditions.size() - 1;
    }

    private boolean decide(int c, int node) {
        relate();
        return hold(c, node, new HashMap<>());
    }

    private boolean hold(int c, int node, Map<Integer, Boolean> known) {
        int key = c * 100 + node + 1;
        if (!known.containsKey(key)) {
            known.put(key, holdAnew(c, node, known));
        }
        return known.get(key);
    }

    private boolean holdAnew(int c, int node, Map<Integer, Boolean> known) {
        int a = conditions.get(c)[1];
        int b = conditions.get(c)[2];
        switch (conditions.get(c)[0]) {
            case 8:
                return !hold(a, node, known);
            case 9:
                return hold(a, node, known) & hold(b, node, known);
            case 10:
                return hold(a, node, known) | hold(b, node, known);
            case 11:
                return isRow(node) && nodes.get(node).members.stream().allMatch(m -> hold(a, m, known));
            case 12:
                return isRow(node) && nodes.get(node).members.stream().anyMatch(m -> hold(a, m, known));
            case 13:
                return kind(node) == 5 && nodes.get(node).fields.containsKey(a)
                        && hold(b, nodes.get(node).fields.get(a), known);
            default:
                return holdLeaf(conditions.get(c)[0], a, b, node);
        }
    }

    private boolean isRow(int node) {
        return kind(node) == 3 || kind(node) == 4;
    }

    private boolean holdLeaf(int kind, int a, int b, int node) {
        if (kind == 0) {
            return related(a, node);
        }
        if (kind == 6) {
            return kind(node) >= 2 && (kind(node) == 5 ? nodes.get(node).fields.size() : rowSize(node)) == a;
        }
        if (kind == 7) {
            return kind(node) == a;
        }
        if (kind == 14) {
            return isRow(node) && isRow(a) && paired(nodes.get(a).members, nodes.get(node).members);
        }
        if (kind == 4 || kind == 5) {
            if (kind(node) != 2 || kind(a) != 2) {
                return false;
            }
            String text = nodes.get(node).text.toString();
            String other = nodes.get(a).text.toString();
            return kind == 4 ? text.startsWith(other) : text.matches(expression(other));
        }
        return holdNumeric(kind, a, b, node);
    }

    private static String expression(String glob) {
        StringBuilder row = new StringBuilder("(?s)");
        for (char letter : glob.toCharArray()) {
            row.append(letter == '?' ? "." : letter == '*' ? ".*" : java.util.regex.Pattern.quote("" + letter));
        }
        return row.toString();
    }

    private boolean holdNumeric(int kind, int a, int b, int node) {
        if (!isNumeric(node) || !isNumeric(a) || (kind == 3 && !isNumeric(b))) {
            return false;
        }
        if (kind == 3) {
            return Math.abs(value(node) - value(a)) <= value(b);
        }
        int compared = kind(node) == 0 && kind(a) == 0
                ? Long.compare(nodes.get(node).number, nodes.get(a).number)
                : (value(node) < value(a) ? -1 : value(node) > value(a) ? 1 : 0);
        return kind == 1 ? compared < 0 : compared > 0;
    }

    private boolean isNumeric(int node) {
        return kind(node) == 0 || kind(node) == 1;
    }

    private double value(int node) {
        return kind(node) == 0 ? nodes.get(node).number : nodes.get(node).real;
    }

    private int[] causeOf(int c, int node) {
        int kind = conditions.get(c)[0];
        int a = conditions.get(c)[1];
        int b = conditions.get(c)[2];
        if (kind == 9) {
            return decide(a, node) ? causeOf(b, node) : causeOf(a, node);
        }
        if (kind == 11 && isRow(node)) {
            for (int member : nodes.get(node).members) {
                if (!decide(a, member)) {
                    return causeOf(a, member);
                }
            }
        }
        if (kind == 13 && kind(node) == 5 && nodes.get(node).fields.containsKey(a)) {
            return causeOf(b, nodes.get(node).fields.get(a));
        }
        return new int[] {c, node};
    }

    long holds(int c, int node) {
        if (!isCondition(c) || !existsOrNone(node)) {
            return NO_INDEX;
        }
        return decide(c, node) ? 1 : 0;
    }

    long check(int c, int node) {
        if (!isCondition(c) || !existsOrNone(node)) {
            return NO_INDEX;
        }
        if (idle) {
            return 1;
        }
        if (decide(c, node)) {
            held++;
            return 1;
        }
        latestCause = causeOf(c, node);
        if (!soft) {
            return NO_STATE;
        }
        failures++;
        if (causes.size() < 30) {
            causes.add(latestCause);
        }
        return 0;
    }

    long assume(int c, int node) {
        if (!isCondition(c) || !existsOrNone(node)) {
            return NO_INDEX;
        }
        boolean does = decide(c, node);
        idle = idle || !does;
        return does ? 1 : 0;
    }

    long cause(int k, int which) {
        int[] cause = k == NONE ? latestCause : k >= 0 && k < causes.size() ? causes.get(k) : null;
        return cause == null || which < 0 || which > 1 ? NO_INDEX : cause[which];
    }

    long settle() {
        long answer = failures > 0 ? NOT_SUPPORTED : held;
        causes.clear();
        failures = 0;
        held = 0;
        idle = false;
        return answer;
    }

    long count(int what) {
        switch (what) {
            case 0:
                return nodes.size();
            case 1:
                return conditions.size();
            case 2:
                return causes.size();
            case 3:
                return failures;
            case 4:
                return idle ? 1 : 0;
            case 5:
                return kinds();
            default:
                return NONE;
        }
    }

    private long kinds() {
        relate();
        long found = 0;
        for (int a = 0; a < nodes.size(); a++) {
            int first = 0;
            while (!related(first, a)) {
                first++;
            }
            found += first == a ? 1 : 0;
        }
        return found;
    }
}
