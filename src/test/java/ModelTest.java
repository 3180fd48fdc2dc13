import java.util.Random;

/** Runs of calls on the class and on the model, which must answer alike; nothing may throw. */
public final class ModelTest {
    /** An object is promised for 512 calls; one round makes six at most. */
    private static final int RUNS = 4000, MOST_CALLS = 512, CALLS_OF_A_ROUND = 6;
    private static final int[] EDGES = {
        -1, 0, 1, 2, 3, 4, 5, 6, 7, 9, 10, 25, 26, 29, 30, 31, 32, 1000, 1001, 1000000, 1000001,
        -2000000000, Integer.MAX_VALUE, Integer.MIN_VALUE
    };
    private static final String[] NAMES = {
        "place", "road", "town", "river", "hill", "to", "from", "near", "over", "under", "within", "beside",
        "a", "b", "m", "z", "", "{", "hil", "hills"
    };

    private static final Due due = new Due();
    /** A seed of its own for each run, so that a run that fails can be had again. */
    private static Random random;

    public static void main(String[] args) {
        for (int run = 0; run < RUNS; run++) {
            random = new Random(run);
            runCalls(run);
        }
        due.end();
    }

    /**
     * Runs differ in how often an argument is wild (tame runs get far, wild ones meet the edges) and
     * in how many records they begin with (some fill the tables).
     */
    private static void runCalls(int run) {
        RecordLabels x = new RecordLabels();
        Model m = new Model();
        int wild = 1 + run % 4 * 8;
        int before = due.asked();
        for (int i = run % 5 * 10; i > 0; i--) {
            recordCall("run " + run + ", at first: ", x, m, 21, wild);
        }
        while (due.asked() - before <= MOST_CALLS - CALLS_OF_A_ROUND) {
            constantCall("run " + run + ", call " + (due.asked() - before) + ": ", x, m, wild);
        }
    }

    private static int upTo(int most, int wild) {
        if (random.nextInt(100) >= wild) {
            return random.nextInt(most + 1);
        }
        return random.nextInt(8) == 0 ? random.nextInt() : EDGES[random.nextInt(EDGES.length)];
    }

    private static long number() {
        switch (random.nextInt(4)) {
            case 0: return random.nextLong();
            case 1: return random.nextBoolean() ? Long.MIN_VALUE : Long.MAX_VALUE;
            default: return random.nextInt(12) - 4;
        }
    }

    private static int code(int kind, int wild) {
        return upTo(kind == 0 ? 4 : kind == 1 ? 6 : 25, wild);
    }

    private static void constantCall(String where, RecordLabels x, Model m, int wild) {
        int call = random.nextInt(40);
        int kind = upTo(2, wild);
        int code = code(kind, wild);
        switch (call) {
            case 0: {
                long name = random.nextInt(9) == 0 ? random.nextLong() : Due.nameOf(NAMES[random.nextInt(NAMES.length)]);
                due.is(where + "code", x.code(kind, name), m.code(kind, name));
                break;
            }
            case 1:
                due.is(where + "name", x.name(kind, code), m.name(kind, code));
                break;
            case 2:
            case 3: {
                int other = code(kind, wild);
                due.is(where + "swap", x.swap(kind, code, other), m.swap(kind, code, other));
                break;
            }
            case 4:
            case 5:
            case 6: {
                long v = number();
                due.is(where + "rule", x.rule(kind, code, v), m.rule(kind, code, v));
                due.is(where + "result", x.result(), m.result());
                break;
            }
            case 7: {
                boolean on = random.nextBoolean();
                due.is(where + "fail", x.fail(kind, on), m.fail(kind, on));
                break;
            }
            case 8:
                due.is(where + "started", x.started(kind), m.started(kind));
                break;
            default:
                setCall(where, x, m, call, wild);
        }
    }

    private static void setCall(String where, RecordLabels x, Model m, int call, int wild) {
        int set = upTo(9, wild);
        int kind = Math.max(0, m.about(set, 1));
        switch (call) {
            case 9: {
                int newKind = upTo(2, wild);
                due.is(where + "clear", x.clear(set, newKind), m.clear(set, newKind));
                break;
            }
            case 10:
            case 11:
            case 12:
            case 13: {
                int code = code(kind, wild);
                boolean on = random.nextInt(3) != 0;
                due.is(where + "put", x.put(set, code, on), m.put(set, code, on));
                break;
            }
            case 14:
            case 15: {
                int op = upTo(3, wild);
                int other = upTo(9, wild);
                int to = upTo(9, wild);
                due.is(where + "join", x.join(op, set, other, to), m.join(op, set, other, to));
                break;
            }
            case 16: {
                int i = upTo(7, wild);
                due.is(where + "member", x.member(set, i), m.member(set, i));
                break;
            }
            case 17: {
                int what = upTo(1, wild);
                due.is(where + "about", x.about(set, what), m.about(set, what));
                break;
            }
            case 18:
            case 19:
            case 20: {
                int table = kind < 2 ? kind : upTo(1, wild);
                int item = 1 + random.nextInt(table == 1 ? 3 : 2);
                filterCall(where, x, m, table, set, random.nextInt(100) < wild ? upTo(3, wild) : item, wild);
                break;
            }
            default:
                recordCall(where, x, m, call, wild);
        }
    }

    private static void filterCall(String where, RecordLabels x, Model m, int table, int set, int item, int wild) {
        int low = random.nextInt(3) == 0 ? upTo(10, 10) : upTo(1, wild);
        int high = random.nextInt(3) == 0 ? upTo(10, 10) : upTo(1000, wild);
        due.is(where + "filter", x.filter(table, set, item, low, high), m.filter(table, set, item, low, high));
        for (int i = -1; i < 4; i++) {
            due.is(where + "found", x.found(i), m.found(i));
        }
    }

    private static void recordCall(String where, RecordLabels x, Model m, int call, int wild) {
        int table = upTo(1, wild);
        int record = upTo(Math.max(0, m.count(table) - 1), wild);
        int item = upTo(2 + (table & 1), wild);
        switch (call) {
            case 21:
            case 22:
            case 23:
            case 24: {
                int a = code(table, wild);
                int b = table == 0 ? upTo(1000, wild) : upTo(Math.max(0, m.count(0) - 1), wild);
                int c = table == 0 ? code(2, wild) : upTo(Math.max(0, m.count(0) - 1), wild);
                int d = random.nextBoolean() ? upTo(3, wild) : upTo(1000000, wild);
                due.is(where + "record", x.record(table, a, b, c, d), m.record(table, a, b, c, d));
                break;
            }
            case 25:
            case 26:
            case 27: {
                int v = upTo(random.nextBoolean() ? 4 : 25, wild);
                due.is(where + "lay", x.lay(table, record, item, v), m.lay(table, record, item, v));
                break;
            }
            case 28:
            case 29:
                due.is(where + "cell", x.cell(table, record, item), m.cell(table, record, item));
                break;
            case 30:
            case 31:
                due.is(where + "back", x.back(table, record), m.back(table, record));
                break;
            case 32:
            case 33:
            case 34: {
                int i = upTo(4, wild);
                due.is(where + "part", x.part(i), m.part(i));
                break;
            }
            case 35: {
                int i = upTo(30, wild);
                due.is(where + "found", x.found(i), m.found(i));
                break;
            }
            case 36:
            case 37:
                due.is(where + "sum", x.sum(table), m.sum(table));
                break;
            default: {
                int what = upTo(3, wild);
                due.is(where + "count", x.count(what), m.count(what));
            }
        }
    }
}
