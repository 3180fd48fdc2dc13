import java.util.HashMap;
import java.util.Map;

/** The edges of promises 19 to 22, each sentence with a test of its own. */
public final class FilterEdgesTest {
    private static final int LEAST = Integer.MIN_VALUE, MOST = Integer.MAX_VALUE;
    private static final int[] NO_TABLES = {-1, 2, LEAST, MOST};
    private static final long NONE = RecordLabels.NONE, STATE = RecordLabels.STATE;
    private static final int OVER = 3, UNDER = 4, WITHIN = 5, BESIDE = 6;

    private static final Due due = new Due();
    private static final Effect effect = new Effect(due);

    public static void main(String[] args) {
        promise19BadTable();
        promise19BadSet();
        promise19BadItem();
        promise19State();
        promise19FromLowToHigh();
        promise19ASignByCode();
        promise19RightOnes();
        promise19InASet();
        promise19NoneAndAll();
        promise19NothingElse();
        promise20NoneBefore();
        promise20NoneBehind();
        promise20NotRefused();
        promise20Latest();
        promise21Bad();
        promise21WithoutRightOnes();
        promise21Start();
        promise21NoStart();
        promise21FailuresCountNothing();
        promise21Starts();
        promise21ByTheRule();
        promise21Greatest();
        promise21NothingElse();
        promise22Bad();
        promise22Records();
        promise22Failures();
        promise22Wrong();
        due.end();
    }

    private static void finds(String what, RecordLabels x, int got, int... records) {
        due.is(what, got, records.length);
        for (int i = 0; i < records.length; i++) {
            due.is(what + ", found " + i, x.found(i), records[i]);
        }
        due.is(what + ", none behind", x.found(records.length), NONE);
    }

    private static void promise19BadTable() {
        due.sentence("19: BAD: the TABLE");
        for (int table : NO_TABLES) {
            effect.none("filter of table " + table, x -> x.filter(table, 0, 1, 0, 9), RecordLabels.BAD);
            effect.none("filter of table " + table + " by signs", x -> x.filter(table, 2, 2, 0, 9), RecordLabels.BAD);
        }
    }

    private static void promise19BadSet() {
        due.sentence("19: BAD: .. the SET");
        int[] noSets = {-1, 10, LEAST, MOST};
        for (int set : noSets) {
            effect.none("filter of nodes by set " + set, x -> x.filter(0, set, 1, 0, 9), RecordLabels.BAD);
            effect.none("filter of arcs by set " + set, x -> x.filter(1, set, 1, 0, 9), RecordLabels.BAD);
        }
    }

    private static void promise19BadItem() {
        due.sentence("19: BAD: .. an ITEM that it has not (ahead of STATE)");
        for (int table = 0; table < 2; table++) {
            int of = table;
            int[] never = {-1, 3 + table, 5, LEAST, MOST};
            for (int item : never) {
                for (int set = 0; set < 3; set++) {
                    int by = set;
                    effect.none("filter of " + table + " by set " + set + " and item " + item,
                        x -> x.filter(of, by, item, LEAST, MOST), RecordLabels.BAD);
                }
            }
        }
        due.sentence("19: an ITEM (1 to 3)");
        effect.none("filter of nodes by item 0", x -> x.filter(0, 0, 0, LEAST, MOST), RecordLabels.BAD);
        effect.none(World.BUSY, "filter of arcs by item 0", x -> x.filter(1, 1, 0, LEAST, MOST), RecordLabels.BAD);
    }

    private static void promise19State() {
        due.sentence("19: STATE: the SET is of another KIND");
        int[][] others = {{0, 1}, {0, 2}, {0, 3}, {0, 4}, {1, 0}, {1, 2}, {1, 4}, {1, 5}, {1, 6}};
        for (int[] other : others) {
            for (int item = 1; item <= 2 + other[0]; item++) {
                int of = item;
                effect.none(World.BUSY, "filter of " + other[0] + " by set " + other[1] + " and item " + item,
                    x -> x.filter(other[0], other[1], of, LEAST, MOST), STATE);
            }
        }
        effect.none(World.NEW, "filter of arcs by a new set", x -> x.filter(1, 9, 1, 0, 9), STATE);
    }

    /** Three nodes of weights 0, 500, 1000, and arcs between them of costs 0, 500000, 1000000; sets 0, 1 have all. */
    private static RecordLabels spread() {
        RecordLabels x = new RecordLabels();
        for (int i = 0; i < 3; i++) {
            x.record(0, 2 * i, 500 * i, i == 2 ? 25 : i, 0);
        }
        for (int i = 0; i < 3; i++) {
            x.record(1, 3 * i, i, (i + 1) % 3, 500000 * i);
        }
        World.fillWithAll(x, 0, 0);
        World.fillWithAll(x, 1, 1);
        return x;
    }

    private static void promise19FromLowToHigh() {
        due.sentence("19: an ITEM from low to high");
        RecordLabels x = spread();
        finds("all", x, x.filter(0, 0, 1, LEAST, MOST), 0, 1, 2);
        finds("low and high are in it", x, x.filter(0, 0, 1, 0, 1000), 0, 1, 2);
        finds("one above low", x, x.filter(0, 0, 1, 1, 1000), 1, 2);
        finds("one below high", x, x.filter(0, 0, 1, 0, 999), 0, 1);
        finds("low is high", x, x.filter(0, 0, 1, 500, 500), 1);
        finds("low is just above", x, x.filter(0, 0, 1, 501, 999));
        finds("low above high", x, x.filter(0, 0, 1, 1000, 0));
        finds("low most, high least", x, x.filter(0, 0, 1, MOST, LEAST));
        finds("all below", x, x.filter(0, 0, 1, 1001, MOST));
        finds("all above", x, x.filter(0, 0, 1, LEAST, -1));
        finds("signs", x, x.filter(0, 0, 2, 1, 25), 1, 2);
        finds("from", x, x.filter(1, 1, 1, 1, 2), 1, 2);
        finds("to", x, x.filter(1, 1, 2, 0, 1), 0, 2);
        finds("cost from", x, x.filter(1, 1, 3, 500000, 1000000), 1, 2);
        finds("cost just below high", x, x.filter(1, 1, 3, 0, 999999), 0, 1);
        finds("cost just above low", x, x.filter(1, 1, 3, 1, 500000), 1);
    }

    private static void promise19ASignByCode() {
        due.sentence("19: of a SIGN by CODE");
        RecordLabels x = spread();
        finds("z", x, x.filter(0, 0, 2, 25, 25), 2);
        x.swap(2, 25, 0);
        finds("z has code 0 now", x, x.filter(0, 0, 2, 0, 0), 2);
        finds("a has code 25 now", x, x.filter(0, 0, 2, 25, 25), 0);
        finds("z and b", x, x.filter(0, 0, 2, 0, 1), 1, 2);
        x.swap(2, 25, 24);
        finds("none has code 25 now", x, x.filter(0, 0, 2, 25, 25));
        x.swap(0, 0, 4);
        x.swap(1, 0, 6);
        finds("weights are no codes", x, x.filter(0, 0, 1, 0, 0), 0);
        finds("from is no code", x, x.filter(1, 1, 1, 0, 0), 0);
    }

    private static void promise19RightOnes() {
        due.sentence("19: How many RECORDS of a TABLE are right");
        int[][] wrongCells = {
            {0, 0, -1}, {0, 1, -1}, {0, 1, 1001}, {0, 2, -1},
            {1, 0, -1}, {1, 1, -1}, {1, 1, 3}, {1, 1, 2}, {1, 2, -1}, {1, 2, 3}, {1, 2, 1}, {1, 3, -1}, {1, 3, 1000001}
        };
        for (int[] w : wrongCells) {
            for (int item = 1; item <= 2 + w[0]; item++) {
                RecordLabels x = spread();
                x.lay(w[0], 1, w[1], w[2]);
                String what = "item " + w[1] + " of " + w[0] + " is " + w[2] + ", by item " + item;
                finds(what, x, x.filter(w[0], w[0], item, LEAST, MOST), 0, 2);
                due.is(what + ", not counted as wrong", x.count(3), 0);
            }
        }
        RecordLabels x = spread();
        x.lay(0, 1, 0, -1);
        finds("an arc at a wrong node is right", x, x.filter(1, 1, 1, LEAST, MOST), 0, 1, 2);
        for (int i = 0; i < 3; i++) {
            x.lay(0, i, 2, 26);
        }
        finds("none is right", x, x.filter(0, 0, 1, LEAST, MOST));
    }

    private static void promise19InASet() {
        due.sentence("19: have a CONSTANT that is in a SET");
        RecordLabels x = spread();
        x.clear(0, 0);
        finds("none is in it", x, x.filter(0, 0, 1, LEAST, MOST));
        x.put(0, 1, true);
        finds("one that no record has", x, x.filter(0, 0, 1, LEAST, MOST));
        x.put(0, 4, true);
        finds("the last", x, x.filter(0, 0, 1, LEAST, MOST), 2);
        x.put(0, 0, true);
        finds("the first and the last", x, x.filter(0, 0, 1, LEAST, MOST), 0, 2);
        x.put(0, 4, false);
        finds("the first", x, x.filter(0, 0, 1, LEAST, MOST), 0);
        x.swap(0, 0, 3);
        finds("the first by another code", x, x.filter(0, 0, 1, LEAST, MOST), 0);
        x.lay(0, 1, 0, 3);
        finds("two of one constant", x, x.filter(0, 0, 1, LEAST, MOST), 0, 1);
        World.fill(x, 2, 1, 6);
        finds("the last arc", x, x.filter(1, 2, 1, LEAST, MOST), 2);
    }

    private static void promise19NoneAndAll() {
        due.sentence("19: How many RECORDS (of an empty TABLE, of 30)");
        RecordLabels x = new RecordLabels();
        x.clear(1, 1);
        finds("no nodes", x, x.filter(0, 0, 1, LEAST, MOST));
        finds("no arcs", x, x.filter(1, 1, 3, LEAST, MOST));
        for (int i = 0; i < 30; i++) {
            x.record(0, 0, i, 0, 0);
        }
        for (int i = 0; i < 30; i++) {
            x.record(1, 0, i, (i + 1) % 30, i);
        }
        x.put(0, 0, true);
        x.put(1, 0, true);
        int[] all = new int[30];
        for (int i = 0; i < 30; i++) {
            all[i] = i;
        }
        finds("30 nodes", x, x.filter(0, 0, 1, 0, 29), all);
        finds("the 30th node", x, x.filter(0, 0, 1, 29, 29), 29);
        finds("30 arcs", x, x.filter(1, 1, 3, 0, 29), all);
        finds("the 30th arc", x, x.filter(1, 1, 1, 29, 29), 29);
    }

    private static void promise19NothingElse() {
        due.sentence("19: found() tells them (and nothing else changes)");
        Map<String, Long> found = new HashMap<>();
        found.put("found(0)", 1L);
        found.put("found(1)", NONE);
        found.put("found(2)", NONE);
        effect.only(World.BUSY, "filter that finds one", x -> x.filter(0, 0, 1, 20, 20), 1, found);
        found.put("found(0)", NONE);
        effect.only(World.BUSY, "filter that finds none", x -> x.filter(0, 0, 1, 21, 20), 0, found);
        effect.none(World.NODES_FULL, "filter that finds all again", x -> x.filter(0, 6, 1, 0, 1000), 30);
    }

    private static void promise20NoneBefore() {
        due.sentence("20: NONE (before a filter, or when it found none)");
        int[] all = {LEAST, -1, 0, 1, 29, 30, MOST};
        for (int i : all) {
            effect.none(World.NEW, "found " + i, x -> x.found(i), NONE);
            RecordLabels x = spread();
            due.is("found " + i + " before a filter", x.found(i), NONE);
            x.filter(0, 0, 1, 0, 1000);
            x.filter(0, 0, 1, 7, 7);
            due.is("found " + i + " of none", x.found(i), NONE);
        }
    }

    private static void promise20NoneBehind() {
        due.sentence("20: NONE (an i below 0 or not below how many were found)");
        int[] never = {-1, 30, 31, LEAST, MOST};
        for (int i : never) {
            effect.none("found " + i, x -> x.found(i), NONE);
        }
        effect.none(World.BUSY, "the last found", x -> x.found(2), 3);
        effect.none(World.BUSY, "behind the last found", x -> x.found(3), NONE);
        effect.none(World.NODES_FULL, "the 30th found", x -> x.found(29), 29);
        effect.none(World.ARCS_FULL, "the last of 15", x -> x.found(14), 29);
        effect.none(World.ARCS_FULL, "behind the last of 15", x -> x.found(15), NONE);
    }

    private static void promise20NotRefused() {
        due.sentence("20: the latest filter() that was not refused");
        RecordLabels x = spread();
        x.filter(0, 0, 1, 500, 1000);
        int[][] refused = {{2, 0, 1}, {-1, 0, 1}, {0, -1, 1}, {0, 10, 1}, {0, 0, 0}, {0, 0, 3}, {1, 1, 4}, {0, 1, 1}, {1, 0, 1}};
        for (int[] r : refused) {
            due.holds("refused " + r[0] + " " + r[1] + " " + r[2], x.filter(r[0], r[1], r[2], 7, 7) < 0);
            due.is("the first found", x.found(0), 1);
            due.is("the second found", x.found(1), 2);
            due.is("none behind", x.found(2), NONE);
        }
        due.is("not refused, and none found", x.filter(0, 0, 1, 7, 7), 0);
        due.is("none is found then", x.found(0), NONE);
    }

    private static void promise20Latest() {
        due.sentence("20: those the latest filter() found (what comes later changes them not)");
        RecordLabels x = spread();
        x.filter(0, 0, 1, 500, 1000);
        x.lay(0, 1, 1, 0);
        x.lay(0, 2, 0, -1);
        x.record(0, 0, 700, 0, 0);
        x.clear(0, 1);
        x.swap(0, 2, 4);
        x.sum(0);
        x.back(0, 0);
        due.is("the first found", x.found(0), 1);
        due.is("the second found", x.found(1), 2);
        due.is("none behind", x.found(2), NONE);
        x.filter(1, 1, 3, 0, 0);
        due.is("of the latest", x.found(0), 0);
        due.is("of the latest none behind", x.found(1), NONE);
    }

    private static void promise21Bad() {
        due.sentence("21: -1: BAD");
        for (int table : NO_TABLES) {
            effect.none("sum of table " + table, x -> x.sum(table), -1);
        }
    }

    private static void promise21WithoutRightOnes() {
        due.sentence("21: Without RECORDS that are right 0, and nothing is STARTED");
        effect.none(World.NEW, "no nodes", x -> x.sum(0), 0);
        effect.none(World.NEW, "no arcs", x -> x.sum(1), 0);
        for (int table = 0; table < 2; table++) {
            RecordLabels x = spread();
            for (int i = 0; i < 3; i++) {
                x.lay(table, i, 0, -1);
            }
            due.is("none is right in " + table, x.sum(table), 0);
            due.is("not started", x.started(table), 0);
            due.is("told to fail", x.fail(table, true), 0);
            due.is("none is right, told to fail", x.sum(table), 0);
            due.is("not failed", x.started(table), 0);
            due.is("still told", x.fail(table, true), 1);
            x.rule(table, 0, 1);
            due.is("none is right, failed", x.sum(table), 0);
            due.is("not counted as wrong", x.count(3), 0);
        }
    }

    private static void promise21Start() {
        due.sentence("21: -8: START (then nothing is summed)");
        effect.only(World.FAILED, "nodes, told to fail", x -> x.sum(0), -8, Map.of("started(0)", 2L, "fail(0, true)", STATE));
        effect.only(World.BUSY, "arcs, told to fail", x -> x.sum(1), -8, Map.of("started(1)", 2L, "fail(1, true)", STATE));
        int[][] failing = {{OVER, 0}, {UNDER, 0}, {WITHIN, 3}};
        for (int[] rule : failing) {
            RecordLabels x = spread();
            for (int i = 0; i < 3; i++) {
                x.lay(1, i, 0, rule[0]);
                x.lay(1, i, 3, rule[1]);
            }
            x.fail(1, true);
            due.is("ahead of failures of " + rule[0], x.sum(1), -8);
            due.is("no RULE failed", x.count(2), 0);
        }
        RecordLabels y = spread();
        y.lay(0, 0, 0, -1);
        y.lay(0, 1, 1, -1);
        y.fail(0, true);
        due.is("the third alone is right", y.sum(0), -8);
    }

    private static void promise21NoStart() {
        due.sentence("21: -9: NO_START (then nothing is summed)");
        for (int table = 0; table < 2; table++) {
            RecordLabels x = spread();
            x.fail(table, true);
            due.is("START", x.sum(table), -8);
            due.is("NO_START", x.sum(table), -9);
            due.is("NO_START again", x.sum(table), -9);
            due.is("a RULE has NO_START, too", x.rule(table, 0, 1), RecordLabels.NO_START);
            due.is("no RULE failed", x.count(2), 0);
            RecordLabels y = spread();
            y.fail(table, true);
            y.rule(table, 0, 1);
            due.is("NO_START after a RULE's START", y.sum(table), -9);
            due.is("the other table", y.sum(1 - table), table == 1 ? 0 + 510 + 1000000 : 1 + 1000000);
            y.lay(table, 0, 1, -1);
            y.lay(table, 1, 1, -1);
            due.is("NO_START with one that is right", y.sum(table), -9);
            y.lay(table, 2, 1, -1);
            due.is("none is right", y.sum(table), 0);
        }
    }

    private static void promise21FailuresCountNothing() {
        due.sentence("21: those whose RULE fails count nothing");
        int[][] failing = {{OVER, 0}, {UNDER, 0}, {WITHIN, 3}, {WITHIN, 1000000}};
        for (int[] rule : failing) {
            for (int record = 0; record < 3; record++) {
                RecordLabels x = spread();
                for (int i = 0; i < 3; i++) {
                    x.lay(1, i, 0, i == record ? rule[0] : BESIDE);
                    x.lay(1, i, 3, i == record ? rule[1] : 1 + i);
                }
                String what = "record " + record + " fails by " + rule[0] + " of " + rule[1];
                due.is(what, x.sum(1), 6 - (1 + record));
                due.is(what + ", it is counted", x.count(2), 1);
                due.is(what + ", the kind is started", x.started(1), 1);
                due.is(what + ", it is right", x.back(1, record), 1);
            }
        }
        RecordLabels y = spread();
        for (int i = 0; i < 3; i++) {
            y.lay(1, i, 0, OVER);
            y.lay(1, i, 3, 0);
        }
        due.is("all fail", y.sum(1), 0);
        due.is("all are counted", y.count(2), 3);
        due.is("it starts all the same", y.started(1), 1);
    }

    private static void promise21Starts() {
        due.sentence("21: the sum asks RULES of its TABLE's KIND, which STARTS it alone");
        for (int table = 0; table < 2; table++) {
            RecordLabels x = spread();
            x.sum(table);
            for (int kind = 0; kind < 3; kind++) {
                due.is("sum of " + table + ", kind " + kind, x.started(kind), kind == table ? 1 : 0);
            }
            due.is("told too late", x.fail(table, true), STATE);
            due.is("told in time", x.fail(2, true), 0);
        }
        RecordLabels y = spread();
        y.fail(2, true);
        y.rule(2, 0, 0);
        due.is("signs that have failed do not count", y.sum(0), 0 + 510 + 1000000);
    }

    private static void promise21ByTheRule() {
        due.sentence("21: The sum of the weights or costs .. that are right, each one's by the RULE of its CONSTANT");
        int[][] rules = {
            {0, 0, 7, 7}, {0, 1, 7, 14}, {0, 2, 7, 17}, {0, 3, 7, -7}, {0, 4, 7, 49},
            {0, 0, 0, 0}, {0, 1, 1000, 2000}, {0, 2, 0, 10}, {0, 3, 1000, -1000}, {0, 4, 1000, 1000000},
            {1, 0, 7, 8}, {1, 1, 7, 6}, {1, 2, 7, 3}, {1, OVER, 7, 14}, {1, UNDER, 7, 2}, {1, WITHIN, 1, 7}, {1, BESIDE, 7, 7},
            {1, 0, 1000000, 1000001}, {1, 1, 0, -1}, {1, 2, 1, 0}, {1, OVER, 101, 0}, {1, UNDER, 101, 100},
            {1, WITHIN, 0, 5}, {1, WITHIN, 2, 9}, {1, BESIDE, 0, 0}, {0, 3, 1, -1}, {0, 3, 8, -8}, {0, 3, 9, -9}
        };
        for (int[] r : rules) {
            RecordLabels x = spread();
            for (int i = 0; i < 3; i++) {
                x.lay(r[0], i, 0, i == 1 ? r[1] : -1);
            }
            x.lay(r[0], 1, r[0] == 0 ? 1 : 3, r[2]);
            String what = "constant " + r[1] + " of " + r[0] + ", of " + r[2];
            due.is(what, x.sum(r[0]), r[3]);
            due.is(what + ", started", x.started(r[0]), 1);
            x.swap(r[0], r[1], 2);
            due.is(what + ", by another code", x.sum(r[0]), r[3]);
        }
        RecordLabels y = spread();
        y.lay(0, 2, 2, -1);
        y.lay(1, 1, 2, 1);
        due.is("right nodes alone", y.sum(0), 0 + 510);
        due.is("right arcs alone", y.sum(1), 1 + 1000000);
    }

    private static void promise21Greatest() {
        due.sentence("21: The sum .. of all RECORDS (30)");
        RecordLabels x = new RecordLabels();
        for (int i = 0; i < 30; i++) {
            x.record(0, 4, 1000, 25, 0);
        }
        for (int i = 0; i < 30; i++) {
            x.record(1, 0, i, (i + 1) % 30, 1000000);
        }
        due.is("30 hills", x.sum(0), 30000000);
        due.is("30 arcs to", x.sum(1), 30000030);
        for (int i = 0; i < 30; i++) {
            x.lay(0, i, 0, 3);
        }
        due.is("30 rivers", x.sum(0), -30000);
    }

    private static void promise21NothingElse() {
        due.sentence("21: a sum changes nothing but STARTS and the count of failures");
        effect.none(World.BUSY, "nodes of a started kind", x -> x.sum(0), 1000000 + 2 * 20 + 0);
        effect.none(World.FAILED, "arcs of a started kind", x -> x.sum(1), 2 + 16);
        effect.only(World.NODES_FULL, "arcs", x -> x.sum(1), 16, Map.of("started(1)", 1L, "fail(1, true)", STATE));
        RecordLabels x = World.ARCS_FULL.made();
        x.sum(1);
        due.is("failures of within 6, 13, 20, 27", x.count(2), 4);
        due.is("result", x.result(), 3 ^ 1);
    }

    private static void promise22Bad() {
        due.sentence("22: BAD (what)");
        int[] noWhats = {-1, 4, LEAST, MOST};
        for (int what : noWhats) {
            effect.none("count " + what, x -> x.count(what), RecordLabels.BAD);
        }
    }

    private static void promise22Records() {
        due.sentence("22: 0, 1 RECORDS of NODES, ARCS (none, 30, the wrong ones too)");
        effect.none(World.NEW, "no nodes", x -> x.count(0), 0);
        effect.none(World.NEW, "no arcs", x -> x.count(1), 0);
        effect.none(World.NODES_FULL, "30 nodes", x -> x.count(0), 30);
        effect.none(World.NODES_FULL, "an arc", x -> x.count(1), 1);
        effect.none(World.ARCS_FULL, "two nodes", x -> x.count(0), 2);
        effect.none(World.ARCS_FULL, "30 arcs", x -> x.count(1), 30);
        effect.none(World.BUSY, "nodes, one of them wrong", x -> x.count(0), 4);
        effect.none(World.BUSY, "arcs, one of them wrong", x -> x.count(1), 3);
    }

    private static void promise22Failures() {
        due.sentence("22: 2 how often a RULE failed by ZERO, INDEX, OWN (in sum(), too)");
        RecordLabels x = spread();
        x.rule(1, OVER, 0);
        due.is("ZERO of over", x.count(2), 1);
        x.rule(1, UNDER, 0);
        due.is("ZERO of under", x.count(2), 2);
        x.rule(1, WITHIN, 3);
        due.is("INDEX", x.count(2), 3);
        x.rule(1, BESIDE, -1);
        due.is("OWN", x.count(2), 4);
        x.rule(1, 7, 0);
        x.rule(3, 0, 0);
        due.is("BAD does not count", x.count(2), 4);
        x.fail(0, true);
        x.rule(0, 0, 0);
        x.rule(0, 0, 0);
        x.sum(0);
        due.is("START and NO_START do not count", x.count(2), 4);
        x.lay(1, 0, 0, OVER);
        x.lay(1, 1, 0, WITHIN);
        x.sum(1);
        due.is("two in a sum", x.count(2), 6);
        x.sum(1);
        due.is("two in the next sum", x.count(2), 8);
        x.lay(1, 0, 1, -1);
        x.sum(1);
        due.is("a wrong one's RULE is not asked", x.count(2), 9);
        x.filter(1, 1, 3, 0, 9);
        x.back(1, 1);
        due.is("filter and back ask no RULE", x.count(2), 9);
    }

    private static void promise22Wrong() {
        due.sentence("22: 3 how often what was put together was wrong (record(), back())");
        RecordLabels x = spread();
        x.record(0, 5, 0, 0, 0);
        due.is("a node", x.count(3), 1);
        x.record(1, 0, 0, 0, 0);
        due.is("an arc", x.count(3), 2);
        x.lay(0, 0, 1, -1);
        due.is("laid, not put together", x.count(3), 2);
        x.back(0, 0);
        due.is("back", x.count(3), 3);
        x.back(0, 0);
        due.is("back again", x.count(3), 4);
        x.back(0, 1);
        x.record(0, 0, 0, 0, 0);
        due.is("right ones", x.count(3), 4);
        x.back(0, 9);
        x.back(2, 0);
        x.record(2, 0, 0, 0, 0);
        due.is("BAD ones", x.count(3), 4);
        x.filter(0, 0, 1, 0, 9);
        x.sum(0);
        x.cell(0, 0, 1);
        due.is("filter, sum, cell", x.count(3), 4);
        RecordLabels y = World.NODES_FULL.made();
        y.record(0, 5, 0, 0, 0);
        due.is("FULL", y.count(3), 0);
    }
}
