/**
 * Labels of nodes and arcs as named constants with rules of their own, sets of them, and
 * records of them in columns. README.md says how to use it.
 *
 * Inside, a constant is its number in the order that is first told; codes stand only in what
 * comes in and goes out. So an exchange of codes changes no set and no cell.
 */
public final class RecordLabels {
    public static final int BAD = -1, FULL = -2, STATE = -3, NONE = -4, ZERO = -5, INDEX = -6, OWN = -7, START = -8, NO_START = -9;

    private static final int NODES = 0, ARCS = 1, SIGNS = 2;
    private static final int DONE = 1;
    private static final int NOT_STARTED = 0, STARTED = 1, FAILED = 2;
    private static final int SETS = 10;
    private static final int BOTH = 0, COMMON = 1, FIRST_ALONE = 2, OTHERS = 3;
    private static final int MOST_RECORDS = 30, MOST_ITEMS = 4;
    private static final int LABEL = 0, WEIGHT = 1, SIGN = 2, FROM_NODE = 1, TO_NODE = 2, COST = 3;
    private static final int MOST_WEIGHT = 1000, MOST_COST = 1000000;
    private static final int EMPTY = -1, RIGHT = -1, FIRST_WRONG = -10;
    private static final int NO_CELL = -2000000000;

    private static final int PLACE = 0, ROAD = 1, TOWN = 2, RIVER = 3, HILL = 4;
    private static final int TO = 0, FROM = 1, NEAR = 2, OVER = 3, UNDER = 4, WITHIN = 5, BESIDE = 6;

    /** place road town river hill, each with its first letter lowest. */
    private static final long[] NODE_NAMES = {
        0x6563616c70L, 0x64616f72L, 0x6e776f74L, 0x7265766972L, 0x6c6c6968L
    };
    /** to from near over under within beside, each with its first letter lowest. */
    private static final long[] ARC_NAMES = {
        0x6f74L, 0x6d6f7266L, 0x7261656eL, 0x7265766fL, 0x7265646e75L, 0x6e6968746977L, 0x656469736562L
    };
    private static final long[] SIGN_NAMES = {
        'a', 'b', 'c', 'd', 'e', 'f', 'g', 'h', 'i', 'j', 'k', 'l', 'm',
        'n', 'o', 'p', 'q', 'r', 's', 't', 'u', 'v', 'w', 'x', 'y', 'z'
    };
    private static final long[] WITHIN_ITEMS = {5, 7, 9};

    private final Kind nodeKind = new Kind(NODES, NODE_NAMES);
    private final Kind arcKind = new Kind(ARCS, ARC_NAMES);
    private final Kind signKind = new Kind(SIGNS, SIGN_NAMES);
    private final LabelSet[] sets = new LabelSet[SETS];
    private final Table nodeTable = new Table(nodeKind, 3, WEIGHT);
    private final Table arcTable = new Table(arcKind, 4, COST);

    private long lastResult = 0;
    private int ruleFailures = 0;
    private int wrongRecords = 0;

    /** The items that are being checked, as constants and numbers; used again by each call. */
    private final int[] draft = new int[MOST_ITEMS];
    /** The items put together at last: a copy, so that what is laid later does not change it. */
    private final int[] parts = new int[MOST_ITEMS];
    private Table partsTable = null;

    private final int[] foundRecords = new int[MOST_RECORDS];
    private int foundSize = 0;

    /** The constants of one kind, their codes of now, and its start. */
    private static final class Kind {
        private final int number;
        private final long[] names;
        private final int size;
        private final int[] constants;
        private final int[] codes;
        private int start = NOT_STARTED;
        private boolean toldToFail = false;

        private Kind(int number, long[] names) {
            this.number = number;
            this.names = names;
            this.size = names.length;
            this.constants = new int[names.length];
            this.codes = new int[names.length];
            for (int i = 0; i < names.length; i++) {
                constants[i] = i;
                codes[i] = i;
            }
        }

        private boolean has(int codeOrConstant) {
            return codeOrConstant >= 0 && codeOrConstant < size;
        }

        private int constantOf(int code) {
            return has(code) ? constants[code] : EMPTY;
        }

        private int codeOf(int constant) {
            return has(constant) ? codes[constant] : EMPTY;
        }

        private int constantNamed(long name) {
            for (int i = 0; i < size; i++) {
                if (names[i] == name) {
                    return i;
                }
            }
            return EMPTY;
        }

        private long nameOf(int constant) {
            return has(constant) ? names[constant] : 0;
        }

        private void exchange(int a, int b) {
            int first = constantOf(a);
            int second = constantOf(b);
            giveCode(first, b);
            giveCode(second, a);
        }

        private void giveCode(int constant, int code) {
            if (has(constant) && has(code)) {
                constants[code] = constant;
                codes[constant] = code;
            }
        }

        /** Starts the kind if no rule of it was asked before: DONE, START or NO_START. */
        private int startForRule() {
            if (start == FAILED) {
                return NO_START;
            }
            if (start == NOT_STARTED && toldToFail) {
                start = FAILED;
                return START;
            }
            start = STARTED;
            return DONE;
        }
    }

    /** Constants of one kind: bit n of members is the constant n. */
    private static final class LabelSet {
        private Kind kind;
        private int members = 0;

        private LabelSet(Kind kind) {
            this.kind = kind;
        }

        private int size() {
            return Integer.bitCount(members);
        }

        private boolean holds(int constant) {
            return kind.has(constant) && (members >> constant & 1) == 1;
        }

        private void become(Kind newKind, int newMembers) {
            kind = newKind;
            members = newMembers;
        }
    }

    /** The columns of one table; cells of constants hold the constant or EMPTY. */
    private static final class Table {
        private final Kind kind;
        private final int items;
        private final int measure;
        private final int[][] columns;
        private int size = 0;

        private Table(Kind kind, int items, int measure) {
            this.kind = kind;
            this.items = items;
            this.measure = measure;
            this.columns = new int[MOST_ITEMS][MOST_RECORDS];
        }

        private boolean hasRecord(int record) {
            return record >= 0 && record < size;
        }

        private boolean hasItem(int item) {
            return item >= 0 && item < items;
        }
    }

    public RecordLabels() {
        for (int i = 0; i < SETS; i++) {
            sets[i] = new LabelSet(nodeKind);
        }
    }

    // ---- constants

    public int code(int kind, long name) {
        Kind k = kindNumbered(kind);
        if (k == null) {
            return BAD;
        }
        int constant = k.constantNamed(name);
        return constant == EMPTY ? NONE : k.codeOf(constant);
    }

    public long name(int kind, int code) {
        Kind k = kindNumbered(kind);
        return k == null ? 0 : k.nameOf(k.constantOf(code));
    }

    public int swap(int kind, int a, int b) {
        Kind k = kindNumbered(kind);
        if (k == null || !k.has(a) || !k.has(b)) {
            return BAD;
        }
        k.exchange(a, b);
        return DONE;
    }

    public int rule(int kind, int code, long v) {
        Kind k = kindNumbered(kind);
        if (k == null || !k.has(code)) {
            return BAD;
        }
        int constant = k.constantOf(code);
        int answer = askRule(k, constant, v);
        if (answer == DONE) {
            lastResult = valueOf(k, constant, v);
        }
        return answer;
    }

    public long result() {
        return lastResult;
    }

    public int fail(int kind, boolean on) {
        Kind k = kindNumbered(kind);
        if (k == null) {
            return BAD;
        }
        if (k.start != NOT_STARTED) {
            return STATE;
        }
        int before = oneIf(k.toldToFail);
        k.toldToFail = on;
        return before;
    }

    public int started(int kind) {
        Kind k = kindNumbered(kind);
        return k == null ? BAD : k.start;
    }

    // ---- sets

    public int clear(int set, int kind) {
        LabelSet s = setNumbered(set);
        Kind k = kindNumbered(kind);
        if (s == null || k == null) {
            return BAD;
        }
        int before = s.size();
        s.become(k, 0);
        return before;
    }

    public int put(int set, int code, boolean on) {
        LabelSet s = setNumbered(set);
        if (s == null || !s.kind.has(code)) {
            return BAD;
        }
        int constant = s.kind.constantOf(code);
        int before = oneIf(s.holds(constant));
        int bit = 1 << constant;
        s.members = on ? s.members | bit : s.members & ~bit;
        return before;
    }

    public int join(int op, int a, int b, int to) {
        LabelSet first = setNumbered(a);
        LabelSet second = setNumbered(b);
        LabelSet target = setNumbered(to);
        if (op < BOTH || op > OTHERS || first == null || second == null || target == null) {
            return BAD;
        }
        if (op != OTHERS && first.kind != second.kind) {
            return STATE;
        }
        target.become(first.kind, joined(op, first, second));
        return target.size();
    }

    public int member(int set, int i) {
        LabelSet s = setNumbered(set);
        if (s == null) {
            return BAD;
        }
        int seen = 0;
        for (int code = 0; code < s.kind.size; code++) {
            if (s.holds(s.kind.constantOf(code))) {
                if (seen == i) {
                    return code;
                }
                seen++;
            }
        }
        return NONE;
    }

    public int about(int set, int what) {
        LabelSet s = setNumbered(set);
        if (s == null) {
            return BAD;
        }
        switch (what) {
            case 0: return s.size();
            case 1: return s.kind.number;
            default: return BAD;
        }
    }

    // ---- records

    public int record(int table, int a, int b, int c, int d) {
        Table t = tableNumbered(table);
        if (t == null) {
            return BAD;
        }
        if (t.size >= MOST_RECORDS) {
            return FULL;
        }
        draft[0] = toCell(t, 0, a);
        draft[1] = toCell(t, 1, b);
        draft[2] = toCell(t, 2, c);
        draft[3] = toCell(t, 3, d);
        int answer = putTogether(t);
        if (answer != DONE) {
            return answer;
        }
        for (int item = 0; item < t.items; item++) {
            t.columns[item][t.size] = draft[item];
        }
        t.size++;
        return t.size - 1;
    }

    public int lay(int table, int record, int item, int v) {
        Table t = tableNumbered(table);
        if (t == null || !t.hasRecord(record) || !t.hasItem(item)) {
            return BAD;
        }
        t.columns[item][record] = toCell(t, item, v);
        return DONE;
    }

    public int cell(int table, int record, int item) {
        Table t = tableNumbered(table);
        if (t == null || !t.hasRecord(record) || !t.hasItem(item)) {
            return NO_CELL;
        }
        return fromCell(t, item, t.columns[item][record]);
    }

    public int back(int table, int record) {
        Table t = tableNumbered(table);
        if (t == null || !t.hasRecord(record)) {
            return BAD;
        }
        draftOf(t, record);
        return putTogether(t);
    }

    public int part(int i) {
        if (partsTable == null || !partsTable.hasItem(i)) {
            return NONE;
        }
        return fromCell(partsTable, i, parts[i]);
    }

    public int filter(int table, int set, int item, int low, int high) {
        Table t = tableNumbered(table);
        LabelSet s = setNumbered(set);
        if (t == null || s == null || item == LABEL || !t.hasItem(item)) {
            return BAD;
        }
        if (s.kind != t.kind) {
            return STATE;
        }
        foundSize = 0;
        for (int record = 0; record < t.size; record++) {
            draftOf(t, record);
            int v = fromCell(t, item, draft[item]);
            if (wrongItem(t) == RIGHT && s.holds(draft[LABEL]) && isFromTo(v, low, high)) {
                keepFound(record);
            }
        }
        return foundSize;
    }

    public int found(int i) {
        return i >= 0 && i < foundSize ? foundRecords[i] : NONE;
    }

    public long sum(int table) {
        Table t = tableNumbered(table);
        if (t == null) {
            return BAD;
        }
        long total = 0;
        for (int record = 0; record < t.size; record++) {
            draftOf(t, record);
            if (wrongItem(t) == RIGHT) {
                int answer = askRule(t.kind, draft[LABEL], draft[t.measure]);
                if (answer == START || answer == NO_START) {
                    return answer;
                }
                if (answer == DONE) {
                    total += valueOf(t.kind, draft[LABEL], draft[t.measure]);
                }
            }
        }
        return total;
    }

    public int count(int what) {
        switch (what) {
            case 0: return nodeTable.size;
            case 1: return arcTable.size;
            case 2: return ruleFailures;
            case 3: return wrongRecords;
            default: return BAD;
        }
    }

    // ---- what the numbers that come in stand for

    private Kind kindNumbered(int kind) {
        switch (kind) {
            case NODES: return nodeKind;
            case ARCS: return arcKind;
            case SIGNS: return signKind;
            default: return null;
        }
    }

    private LabelSet setNumbered(int set) {
        return set >= 0 && set < SETS ? sets[set] : null;
    }

    private Table tableNumbered(int table) {
        switch (table) {
            case NODES: return nodeTable;
            case ARCS: return arcTable;
            default: return null;
        }
    }

    private static int oneIf(boolean is) {
        return is ? 1 : 0;
    }

    private static boolean isFromTo(int v, int low, int high) {
        return v >= low && v <= high;
    }

    // ---- rules

    /** Starts the kind and tells whether the rule has a value: DONE, or why not. */
    private int askRule(Kind kind, int constant, long v) {
        int startAnswer = kind.startForRule();
        if (startAnswer != DONE) {
            return startAnswer;
        }
        int answer = kind == arcKind ? arcRuleAnswer(constant, v) : DONE;
        if (answer != DONE) {
            ruleFailures++;
        }
        return answer;
    }

    /** Only rules of arcs can fail. */
    private static int arcRuleAnswer(int arc, long v) {
        switch (arc) {
            case OVER:
            case UNDER: return v == 0 ? ZERO : DONE;
            case WITHIN: return v < 0 || v >= WITHIN_ITEMS.length ? INDEX : DONE;
            case BESIDE: return v < 0 ? OWN : DONE;
            default: return DONE;
        }
    }

    private static long valueOf(Kind kind, int constant, long v) {
        switch (kind.number) {
            case NODES: return nodeValue(constant, v);
            case ARCS: return arcValue(constant, v);
            default: return v ^ constant;
        }
    }

    private static long nodeValue(int node, long v) {
        switch (node) {
            case PLACE: return v;
            case ROAD: return 2 * v;
            case TOWN: return v + 10;
            case RIVER: return -v;
            case HILL: return v * v;
            default: return 0;
        }
    }

    /** Where the rule fails this is 0, and nobody asks for it. */
    private static long arcValue(int arc, long v) {
        switch (arc) {
            case TO: return v + 1;
            case FROM: return v - 1;
            case NEAR: return v / 2;
            case OVER: return v == 0 ? 0 : 100 / v;
            case UNDER: return v == 0 ? 0 : 100 % v;
            case WITHIN: return v < 0 || v >= WITHIN_ITEMS.length ? 0 : WITHIN_ITEMS[(int) v];
            case BESIDE: return v;
            default: return 0;
        }
    }

    // ---- members of sets

    private static int joined(int op, LabelSet first, LabelSet second) {
        switch (op) {
            case BOTH: return first.members | second.members;
            case COMMON: return first.members & second.members;
            case FIRST_ALONE: return first.members & ~second.members;
            default: return ((1 << first.kind.size) - 1) & ~first.members;
        }
    }

    // ---- cells and checks

    /** The kind of an item that is a constant; null for an item that is a number. */
    private Kind kindOfItem(Table table, int item) {
        if (item == LABEL) {
            return table.kind;
        }
        return table == nodeTable && item == SIGN ? signKind : null;
    }

    private int toCell(Table table, int item, int v) {
        Kind kind = kindOfItem(table, item);
        return kind == null ? v : kind.constantOf(v);
    }

    private int fromCell(Table table, int item, int held) {
        Kind kind = kindOfItem(table, item);
        return kind == null ? held : kind.codeOf(held);
    }

    private void draftOf(Table table, int record) {
        if (!table.hasRecord(record)) {
            return;
        }
        for (int item = 0; item < table.items; item++) {
            draft[item] = table.columns[item][record];
        }
    }

    /** Makes the draft the record put together at last, if it is right: DONE, or what is wrong. */
    private int putTogether(Table table) {
        int wrong = wrongItem(table);
        if (wrong != RIGHT) {
            wrongRecords++;
            return FIRST_WRONG - wrong;
        }
        for (int item = 0; item < table.items; item++) {
            parts[item] = draft[item];
        }
        partsTable = table;
        return DONE;
    }

    /** The first item of the draft that is wrong, or RIGHT. */
    private int wrongItem(Table table) {
        for (int item = 0; item < table.items; item++) {
            if (!isFromTo(draft[item], 0, highestOf(table, item))) {
                return item;
            }
        }
        return table == arcTable && draft[FROM_NODE] == draft[TO_NODE] ? TO_NODE : RIGHT;
    }

    /** Every right item is from 0 to this; EMPTY lies below, so it is wrong by the same test. */
    private int highestOf(Table table, int item) {
        Kind kind = kindOfItem(table, item);
        if (kind != null) {
            return kind.size - 1;
        }
        if (item == table.measure) {
            return table == nodeTable ? MOST_WEIGHT : MOST_COST;
        }
        return nodeTable.size - 1;
    }

    private void keepFound(int record) {
        if (foundSize < MOST_RECORDS) {
            foundRecords[foundSize] = record;
            foundSize++;
        }
    }
}
