import java.util.ArrayList;
import java.util.Collections;
import java.util.HashMap;
import java.util.HashSet;
import java.util.List;
import java.util.Map;
import java.util.Set;

/**
 * The document once more, told by names in lists, sets and maps instead of numbers in arrays, so
 * that a slip in the class is not likely to stand here too. Made for plainness, not for speed.
 */
final class Model {
    private static final int BAD = -1, FULL = -2, STATE = -3, NONE = -4, ZERO = -5, INDEX = -6, OWN = -7, START = -8, NO_START = -9;

    /** A rule that has no value. */
    private static final class Refused extends Exception {
        private static final long serialVersionUID = 1L;
        private final int why;

        private Refused(int why) {
            super(null, null, false, false);
            this.why = why;
        }
    }

    private static final class LabelSet {
        private int kind = 0;
        private Set<String> names = new HashSet<>();
    }

    /** A name per kind and code. */
    private final List<List<String>> orders = List.of(
        words("place road town river hill"),
        words("to from near over under within beside"),
        words("a b c d e f g h i j k l m n o p q r s t u v w x y z"));
    private final Set<Integer> toldToFail = new HashSet<>();
    private final Map<Integer, Integer> starts = new HashMap<>();
    private final List<LabelSet> sets = new ArrayList<>();
    /** Records per table: a String for a constant, null for an EMPTY cell, an Integer for a number. */
    private final List<List<Object[]>> tables = List.of(new ArrayList<>(), new ArrayList<>());
    private Object[] parts = null;
    private boolean partsOfArcs = false;
    private List<Integer> foundOnes = List.of();
    private long lastResult = 0;
    private int failures = 0;
    private int wrongs = 0;

    Model() {
        for (int i = 0; i < 10; i++) {
            sets.add(new LabelSet());
        }
    }

    private static List<String> words(String text) {
        return new ArrayList<>(List.of(text.split(" ")));
    }

    private static <T> boolean at(List<T> list, int i) {
        return i >= 0 && i < list.size();
    }

    private boolean at(int kind, int code) {
        return at(orders, kind) && at(orders.get(kind), code);
    }

    int code(int kind, long name) {
        if (!at(orders, kind)) {
            return BAD;
        }
        for (String text : orders.get(kind)) {
            if (Due.nameOf(text) == name) {
                return orders.get(kind).indexOf(text);
            }
        }
        return NONE;
    }

    long name(int kind, int code) {
        return at(kind, code) ? Due.nameOf(orders.get(kind).get(code)) : 0;
    }

    int swap(int kind, int a, int b) {
        if (!at(kind, a) || !at(kind, b)) {
            return BAD;
        }
        Collections.swap(orders.get(kind), a, b);
        return 1;
    }

    int rule(int kind, int code, long v) {
        if (!at(kind, code)) {
            return BAD;
        }
        try {
            lastResult = ruled(kind, orders.get(kind).get(code), v);
            return 1;
        } catch (Refused refused) {
            return refused.why;
        }
    }

    private long ruled(int kind, String name, long v) throws Refused {
        if (started(kind) == 2) {
            throw new Refused(NO_START);
        }
        if (started(kind) == 0) {
            starts.put(kind, toldToFail.contains(kind) ? 2 : 1);
            if (started(kind) == 2) {
                throw new Refused(START);
            }
        }
        switch (name) {
            case "place": return v;
            case "road": return v + v;
            case "town": return v + 10;
            case "river": return 0 - v;
            case "hill": return v * v;
            case "to": return v + 1;
            case "from": return v - 1;
            case "near": return (v - v % 2) / 2;
            case "over": return unless(v == 0, ZERO) ? 100 / v : 0;
            case "under": return unless(v == 0, ZERO) ? 100 - 100 / v * v : 0;
            case "within": return unless(v < 0 || v > 2, INDEX) ? 5 + 2 * v : 0;
            case "beside": return unless(v < 0, OWN) ? v : 0;
            default: return v ^ (name.charAt(0) - 'a');
        }
    }

    private boolean unless(boolean failed, int why) throws Refused {
        if (failed) {
            failures++;
            throw new Refused(why);
        }
        return true;
    }

    long result() {
        return lastResult;
    }

    int fail(int kind, boolean on) {
        if (!at(orders, kind)) {
            return BAD;
        }
        if (started(kind) != 0) {
            return STATE;
        }
        boolean changed = on ? toldToFail.add(kind) : toldToFail.remove(kind);
        return on != changed ? 1 : 0;
    }

    int started(int kind) {
        return at(orders, kind) ? starts.getOrDefault(kind, 0) : BAD;
    }

    int clear(int set, int kind) {
        if (!at(sets, set) || !at(orders, kind)) {
            return BAD;
        }
        int before = sets.get(set).names.size();
        sets.get(set).kind = kind;
        sets.get(set).names.clear();
        return before;
    }

    int put(int set, int code, boolean on) {
        if (!at(sets, set) || !at(sets.get(set).kind, code)) {
            return BAD;
        }
        LabelSet s = sets.get(set);
        String name = orders.get(s.kind).get(code);
        boolean before = s.names.contains(name);
        if (on) {
            s.names.add(name);
        } else {
            s.names.remove(name);
        }
        return before ? 1 : 0;
    }

    int join(int op, int a, int b, int to) {
        if (op < 0 || op > 3 || !at(sets, a) || !at(sets, b) || !at(sets, to)) {
            return BAD;
        }
        LabelSet first = sets.get(a);
        LabelSet second = sets.get(b);
        if (op < 3 && first.kind != second.kind) {
            return STATE;
        }
        Set<String> names = new HashSet<>(op == 3 ? orders.get(first.kind) : first.names);
        if (op == 0) {
            names.addAll(second.names);
        } else if (op == 1) {
            names.retainAll(second.names);
        } else {
            names.removeAll(op == 2 ? second.names : first.names);
        }
        sets.get(to).kind = first.kind;
        sets.get(to).names = names;
        return names.size();
    }

    int member(int set, int i) {
        if (!at(sets, set)) {
            return BAD;
        }
        List<Integer> codes = new ArrayList<>();
        for (String name : sets.get(set).names) {
            codes.add(orders.get(sets.get(set).kind).indexOf(name));
        }
        Collections.sort(codes);
        return at(codes, i) ? codes.get(i) : NONE;
    }

    int about(int set, int what) {
        if (!at(sets, set) || what < 0 || what > 1) {
            return BAD;
        }
        return what == 0 ? sets.get(set).names.size() : sets.get(set).kind;
    }

    int record(int table, int a, int b, int c, int d) {
        if (!at(tables, table)) {
            return BAD;
        }
        if (tables.get(table).size() == 30) {
            return FULL;
        }
        Object[] record = table == 0
            ? new Object[] {constant(0, a), b, constant(2, c)}
            : new Object[] {constant(1, a), b, c, d};
        int answer = together(table, record);
        if (answer == 1) {
            tables.get(table).add(record);
            return tables.get(table).size() - 1;
        }
        return answer;
    }

    private String constant(int kind, int code) {
        return at(kind, code) ? orders.get(kind).get(code) : null;
    }

    private int together(int table, Object[] record) {
        int wrong = wrong(table, record);
        if (wrong >= 0) {
            wrongs++;
            return -10 - wrong;
        }
        parts = record.clone();
        partsOfArcs = table == 1;
        return 1;
    }

    private int wrong(int table, Object[] record) {
        int nodes = tables.get(0).size();
        if (record[0] == null) {
            return 0;
        }
        if (table == 0) {
            return !within(record[1], 1000) ? 1 : record[2] == null ? 2 : -1;
        }
        if (!within(record[1], nodes - 1)) {
            return 1;
        }
        if (!within(record[2], nodes - 1)) {
            return 2;
        }
        return !within(record[3], 1000000) ? 3 : record[1].equals(record[2]) ? 2 : -1;
    }

    private static boolean within(Object number, int most) {
        return (Integer) number >= 0 && (Integer) number <= most;
    }

    private boolean hasCell(int table, int record, int item) {
        return at(tables, table) && at(tables.get(table), record) && item >= 0 && item < 3 + table;
    }

    int lay(int table, int record, int item, int v) {
        if (!hasCell(table, record, item)) {
            return BAD;
        }
        Object held = v;
        if (item == 0) {
            held = constant(table, v);
        } else if (item == 2 && table == 0) {
            held = constant(2, v);
        }
        tables.get(table).get(record)[item] = held;
        return 1;
    }

    private int told(boolean ofArcs, int item, Object held) {
        if (held instanceof Integer) {
            return (Integer) held;
        }
        int kind = item == 2 ? 2 : ofArcs ? 1 : 0;
        return orders.get(kind).indexOf(held);
    }

    int cell(int table, int record, int item) {
        return hasCell(table, record, item) ? told(table == 1, item, tables.get(table).get(record)[item]) : -2000000000;
    }

    int back(int table, int record) {
        return hasCell(table, record, 0) ? together(table, tables.get(table).get(record)) : BAD;
    }

    int part(int i) {
        return parts == null || i < 0 || i >= parts.length ? NONE : told(partsOfArcs, i, parts[i]);
    }

    int filter(int table, int set, int item, int low, int high) {
        if (!at(tables, table) || !at(sets, set) || item < 1 || item > 2 + table) {
            return BAD;
        }
        if (sets.get(set).kind != table) {
            return STATE;
        }
        List<Integer> found = new ArrayList<>();
        for (int i = 0; i < tables.get(table).size(); i++) {
            Object[] record = tables.get(table).get(i);
            if (wrong(table, record) < 0 && sets.get(set).names.contains(record[0])) {
                int v = told(table == 1, item, record[item]);
                if (low <= v && v <= high) {
                    found.add(i);
                }
            }
        }
        foundOnes = found;
        return found.size();
    }

    int found(int i) {
        return at(foundOnes, i) ? foundOnes.get(i) : NONE;
    }

    long sum(int table) {
        if (!at(tables, table)) {
            return BAD;
        }
        long sum = 0;
        for (Object[] record : tables.get(table)) {
            if (wrong(table, record) >= 0) {
                continue;
            }
            try {
                sum += ruled(table, (String) record[0], (Integer) record[table == 0 ? 1 : 3]);
            } catch (Refused refused) {
                if (refused.why == START || refused.why == NO_START) {
                    return refused.why;
                }
            }
        }
        return sum;
    }

    int count(int what) {
        switch (what) {
            case 0:
            case 1: return tables.get(what).size();
            case 2: return failures;
            case 3: return wrongs;
            default: return BAD;
        }
    }
}
