import java.util.HashMap;
import java.util.Map;

/** The edges of promises 14 to 18, and of records in 'Terms', each sentence with a test of its own. */
public final class RecordsEdgesTest {
    private static final int LEAST = Integer.MIN_VALUE, MOST = Integer.MAX_VALUE;
    private static final int NO_CELL = -2000000000, EMPTY = -1;
    private static final int[] NO_TABLES = {-1, 2, LEAST, MOST};
    private static final long NONE = RecordLabels.NONE;

    private static final Due due = new Due();
    private static final Effect effect = new Effect(due);

    public static void main(String[] args) {
        records30AtMost();
        aNodesConstant();
        aWeight();
        aSign();
        anArcsConstant();
        fromThatThereIs();
        toThatThereIs();
        aCost();
        fromAndToAreTwo();
        theFirstThatIsWrong();
        emptyIsWrong();
        promise14BadTable();
        promise14Wrong();
        promise14Full();
        promise14NodesHaveNoItem3();
        promise14Number();
        promise15BadTable();
        promise15BadRecord();
        promise15BadItem();
        promise15Unchecked();
        promise15AnyOtherIsEmpty();
        promise16NoSuchCell();
        promise16Empty();
        promise16Numbers();
        promise17Bad();
        promise17Wrong();
        promise17Right();
        promise18NoneBefore();
        promise18NoSuchItem();
        promise18WhatIsWrongOrRefused();
        promise18AtLast();
        due.end();
    }

    /** Two nodes and an arc between them, so that one item at a time can be made wrong. */
    private static RecordLabels plain() {
        RecordLabels x = new RecordLabels();
        x.record(0, 0, 0, 0, 0);
        x.record(0, 1, 1, 1, 0);
        x.record(1, 0, 0, 1, 0);
        return x;
    }

    /**
     * Item by item the same is right or wrong for record(), back(), filter() and sum(): all four
     * put a record together.
     */
    private static void checked(int table, int item, int v, int answer) {
        int[] items = table == 0 ? new int[] {0, 0, 0, 0} : new int[] {0, 0, 1, 0};
        items[item] = v;
        String what = "table " + table + ", item " + item + " is " + v;
        RecordLabels x = plain();
        int comes = answer == 1 ? x.count(table) : answer;
        due.is(what + ", record", x.record(table, items[0], items[1], items[2], items[3]), comes);
        due.is(what + ", wrong ones", x.count(3), answer == 1 ? 0 : 1);
        RecordLabels y = plain();
        World.fillWithAll(y, 0, table);
        int before = y.filter(table, 0, 1, 0, 1000);
        due.is(what + ", lay", y.lay(table, 0, item, v), 1);
        due.is(what + ", back", y.back(table, 0), answer);
        due.is(what + ", filter", y.filter(table, 0, 1, 0, 1000), answer == 1 ? before : before - 1);
        due.is(what + ", found", y.found(0), answer == 1 ? 0 : before > 1 ? 1 : NONE);
        y.fail(table, true);
        long sum = answer == 1 || table == 0 ? RecordLabels.START : 0;
        due.is(what + ", sum", y.sum(table), sum);
    }

    private static void records30AtMost() {
        due.sentence("Terms: RECORDS 0, 1, .. (30 at most)");
        RecordLabels x = new RecordLabels();
        for (int i = 0; i < 30; i++) {
            due.is("node " + i, x.record(0, 0, i, 0, 0), i);
        }
        due.is("the 31st node", x.record(0, 0, 30, 0, 0), RecordLabels.FULL);
        due.is("nodes", x.count(0), 30);
        for (int i = 0; i < 30; i++) {
            due.is("arc " + i, x.record(1, 0, i, (i + 1) % 30, i), i);
        }
        due.is("the 31st arc", x.record(1, 0, 0, 1, 30), RecordLabels.FULL);
        due.is("arcs", x.count(1), 30);
        due.is("the first node", x.cell(0, 0, 1), 0);
        due.is("the last node", x.cell(0, 29, 1), 29);
        due.is("no 31st node", x.cell(0, 30, 1), NO_CELL);
        due.is("the first arc", x.cell(1, 0, 3), 0);
        due.is("the last arc", x.cell(1, 29, 3), 29);
        due.is("no 31st arc", x.cell(1, 30, 3), NO_CELL);
    }

    private static void aNodesConstant() {
        due.sentence("Terms: of NODES: 0 a CONSTANT of NODES");
        checked(0, 0, 0, 1);
        checked(0, 0, 4, 1);
        int[] wrong = {-1, 5, 6, 25, LEAST, MOST};
        for (int v : wrong) {
            checked(0, 0, v, -10);
        }
    }

    private static void aWeight() {
        due.sentence("Terms: 1 a weight (0 to 1000)");
        int[] right = {0, 1, 999, 1000};
        for (int v : right) {
            checked(0, 1, v, 1);
        }
        int[] wrong = {-1, 1001, 1000000, LEAST, MOST};
        for (int v : wrong) {
            checked(0, 1, v, -11);
        }
    }

    private static void aSign() {
        due.sentence("Terms: 2 a SIGN");
        checked(0, 2, 0, 1);
        checked(0, 2, 25, 1);
        int[] wrong = {-1, 26, 27, LEAST, MOST};
        for (int v : wrong) {
            checked(0, 2, v, -12);
        }
    }

    private static void anArcsConstant() {
        due.sentence("Terms: Of ARCS: 0 a CONSTANT of ARCS");
        checked(1, 0, 0, 1);
        checked(1, 0, 6, 1);
        int[] wrong = {-1, 7, 8, 25, LEAST, MOST};
        for (int v : wrong) {
            checked(1, 0, v, -10);
        }
    }

    /** An object with so many nodes. */
    private static RecordLabels withNodes(int nodes) {
        RecordLabels x = new RecordLabels();
        for (int i = 0; i < nodes; i++) {
            x.record(0, 0, 0, 0, 0);
        }
        return x;
    }

    private static void fromThatThereIs() {
        due.sentence("Terms: 1 from: numbers of RECORDS of NODES that there are");
        int[] wrong = {-1, 2, 30, LEAST, MOST};
        for (int v : wrong) {
            checked(1, 1, v, -11);
        }
        due.is("without nodes", withNodes(0).record(1, 0, 0, 1, 0), -11);
        for (int nodes = 2; nodes <= 30; nodes++) {
            due.is("the last of " + nodes, withNodes(nodes).record(1, 0, nodes - 1, 0, 0), 0);
            due.is("behind the last of " + nodes, withNodes(nodes).record(1, 0, nodes, 0, 0), -11);
        }
        RecordLabels x = plain();
        x.lay(1, 0, 1, 2);
        due.is("a node that there is not", x.back(1, 0), -11);
        x.record(0, 0, 1001, 0, 0);
        due.is("nor when it was wrong", x.back(1, 0), -11);
        x.record(0, 0, 1000, 0, 0);
        due.is("now there is", x.back(1, 0), 1);
        x.lay(0, 2, 0, EMPTY);
        due.is("there is, though it is wrong now", x.back(1, 0), 1);
    }

    private static void toThatThereIs() {
        due.sentence("Terms: 2 to: numbers of RECORDS of NODES that there are");
        int[] wrong = {-1, 2, 30, LEAST, MOST};
        for (int v : wrong) {
            checked(1, 2, v, -12);
        }
        due.is("with one node", withNodes(1).record(1, 0, 0, 1, 0), -12);
        for (int nodes = 2; nodes <= 30; nodes++) {
            due.is("the last of " + nodes, withNodes(nodes).record(1, 0, 0, nodes - 1, 0), 0);
            due.is("behind the last of " + nodes, withNodes(nodes).record(1, 0, 0, nodes, 0), -12);
        }
        RecordLabels x = plain();
        x.lay(1, 0, 2, 2);
        due.is("a node that there is not", x.back(1, 0), -12);
        x.record(0, 0, 0, 26, 0);
        due.is("nor when it was wrong", x.back(1, 0), -12);
        x.record(0, 0, 0, 25, 0);
        due.is("now there is", x.back(1, 0), 1);
        x.lay(0, 2, 1, -1);
        due.is("there is, though it is wrong now", x.back(1, 0), 1);
    }

    private static void aCost() {
        due.sentence("Terms: 3 a cost (0 to 1,000,000)");
        int[] right = {0, 1, 1001, 999999, 1000000};
        for (int v : right) {
            checked(1, 3, v, 1);
        }
        int[] wrong = {-1, 1000001, LEAST, MOST};
        for (int v : wrong) {
            checked(1, 3, v, -13);
        }
    }

    private static void fromAndToAreTwo() {
        due.sentence("Terms: of ARCS behind all: from and to are two (else 2 is wrong)");
        checked(1, 2, 0, -12);
        checked(1, 1, 1, -12);
        for (int from = 0; from < 3; from++) {
            for (int to = 0; to < 3; to++) {
                int comes = from == to ? -12 : 0;
                due.is("from " + from + " to " + to, withNodes(3).record(1, 0, from, to, 0), comes);
                int behind = -13;
                due.is("from " + from + " to " + to + ", its cost", withNodes(3).record(1, 0, from, to, -1), behind);
                due.is("from " + from + " to " + to + ", its constant", withNodes(3).record(1, 7, from, to, 0), -10);
            }
        }
        due.is("two that there are not, alike", withNodes(3).record(1, 0, 3, 3, 0), -11);
        due.is("one node", withNodes(1).record(1, 0, 0, 0, 0), -12);
        due.is("one node, and the cost", withNodes(1).record(1, 0, 0, 0, 1000001), -13);
        RecordLabels x = plain();
        x.lay(1, 0, 2, 0);
        x.lay(1, 0, 3, 1000001);
        due.is("back, and the cost", x.back(1, 0), -13);
        x.lay(1, 0, 3, 1000000);
        due.is("back", x.back(1, 0), -12);
        due.is("nodes with like items are no arcs", withNodes(0).record(0, 1, 1, 1, 1), 0);
    }

    /** All ways in which some of the items are wrong; the bits of which tell them. */
    private static void theFirstThatIsWrong() {
        due.sentence("Terms: CHECKED are ITEMS, in order; What is wrong is the first one that is not so");
        int[][] right = {{0, 0, 0}, {0, 0, 1, 0}};
        int[][] wrong = {{5, 1001, 26}, {7, 2, 2, 1000001}};
        for (int table = 0; table < 2; table++) {
            for (int which = 1; which < 1 << right[table].length; which++) {
                int[] items = new int[4];
                RecordLabels x = plain();
                for (int item = 0; item < right[table].length; item++) {
                    items[item] = (which >> item & 1) == 0 ? right[table][item] : wrong[table][item];
                    x.lay(table, 0, item, items[item]);
                }
                int first = Integer.numberOfTrailingZeros(which);
                String what = "table " + table + ", wrong " + Integer.toBinaryString(which);
                due.is(what + ", record", plain().record(table, items[0], items[1], items[2], items[3]), -10 - first);
                due.is(what + ", back", x.back(table, 0), -10 - first);
            }
        }
    }

    private static void emptyIsWrong() {
        due.sentence("Terms: a CONSTANT's may be EMPTY (which is wrong)");
        int[][] cells = {{0, 0}, {0, 2}, {1, 0}};
        for (int[] cell : cells) {
            RecordLabels x = plain();
            World.fillWithAll(x, 0, cell[0]);
            x.lay(cell[0], 0, cell[1], EMPTY);
            due.is("cell " + cell[0] + " " + cell[1], x.cell(cell[0], 0, cell[1]), EMPTY);
            due.is("back " + cell[0] + " " + cell[1], x.back(cell[0], 0), -10 - cell[1]);
            due.is("filter " + cell[0] + " " + cell[1], x.filter(cell[0], 0, 1, LEAST, MOST), x.count(cell[0]) - 1);
            due.is("sum " + cell[0] + " " + cell[1], x.sum(cell[0]), cell[0] == 0 ? 2 : 0);
            x.lay(cell[0], 0, cell[1], 0);
            due.is("back, no longer EMPTY", x.back(cell[0], 0), 1);
        }
    }

    private static void promise14BadTable() {
        due.sentence("14: BAD: the TABLE (ahead of FULL)");
        for (int table : NO_TABLES) {
            effect.none("record of table " + table, x -> x.record(table, 0, 0, 0, 0), RecordLabels.BAD);
            effect.none("wrong record of table " + table, x -> x.record(table, -1, -1, -1, -1), RecordLabels.BAD);
        }
    }

    /** What is wrong is counted, and changes nothing else. */
    private static void wrong(World world, String what, Effect.Call call, int answer) {
        effect.only(world, what, call, answer, Map.of("count(3)", effect.before(world, "count(3)") + 1));
    }

    private static void promise14Wrong() {
        due.sentence("14: -10 less the ITEM that is wrong (a CODE that there is not, too)");
        World[] worlds = {World.NEW, World.BUSY, World.FAILED};
        for (World world : worlds) {
            wrong(world, "no node 5", x -> x.record(0, 5, 0, 0, 0), -10);
            wrong(world, "no node -1", x -> x.record(0, -1, 0, 0, 0), -10);
            wrong(world, "weight -1", x -> x.record(0, 4, -1, 0, 0), -11);
            wrong(world, "weight 1001", x -> x.record(0, 4, 1001, 0, 0), -11);
            wrong(world, "no sign -1", x -> x.record(0, 4, 1000, -1, 0), -12);
            wrong(world, "no sign 26", x -> x.record(0, 4, 1000, 26, 0), -12);
            wrong(world, "no arc 7", x -> x.record(1, 7, 0, 1, 0), -10);
            wrong(world, "no arc -1", x -> x.record(1, -1, 0, 1, 0), -10);
            wrong(world, "from -1", x -> x.record(1, 6, -1, 1, 0), -11);
            wrong(world, "from behind the last", x -> x.record(1, 6, x.count(0), 1, 0), -11);
        }
        World[] withNodes = {World.BUSY, World.FAILED, World.NODES_FULL};
        for (World world : withNodes) {
            wrong(world, "to -1", x -> x.record(1, 6, 0, -1, 0), -12);
            wrong(world, "to behind the last", x -> x.record(1, 6, 0, x.count(0), 0), -12);
            wrong(world, "from and to are one", x -> x.record(1, 6, 1, 1, 0), -12);
            wrong(world, "cost -1", x -> x.record(1, 6, 0, 1, -1), -13);
            wrong(world, "cost 1000001", x -> x.record(1, 6, 0, 1, 1000001), -13);
        }
        wrong(World.ARCS_FULL, "a node when arcs are full", x -> x.record(0, 5, 0, 0, 0), -10);
    }

    private static void promise14Full() {
        due.sentence("14: FULL (ahead of that: nothing is checked or counted)");
        int[][] nodes = {{0, 0, 0}, {5, 0, 0}, {-1, 0, 0}, {0, 1001, 0}, {0, -1, 0}, {0, 0, 26}, {0, 0, -1}};
        for (int[] n : nodes) {
            effect.none(World.NODES_FULL, "node " + n[0] + " " + n[1] + " " + n[2],
                x -> x.record(0, n[0], n[1], n[2], 0), RecordLabels.FULL);
        }
        int[][] arcs = {{0, 0, 1, 0}, {7, 0, 1, 0}, {-1, 0, 1, 0}, {0, 2, 1, 0}, {0, 0, 2, 0}, {0, 0, 0, 0}, {0, 0, 1, 1000001}};
        for (int[] a : arcs) {
            effect.none(World.ARCS_FULL, "arc " + a[0] + " " + a[1] + " " + a[2] + " " + a[3],
                x -> x.record(1, a[0], a[1], a[2], a[3]), RecordLabels.FULL);
        }
        due.is("an arc when nodes are full", World.NODES_FULL.made().record(1, 0, 29, 28, 0), 1);
        due.is("a node when arcs are full", World.ARCS_FULL.made().record(0, 0, 0, 0, 0), 2);
    }

    private static void promise14NodesHaveNoItem3() {
        due.sentence("14: of NODES d does not count");
        int[] all = {LEAST, -1, 0, 1, 1000000, 1000001, MOST};
        for (int d : all) {
            RecordLabels x = new RecordLabels();
            due.is("d is " + d, x.record(0, 4, 1000, 25, d), 0);
            due.is("it has no item 3", x.part(3), NONE);
            due.is("it has no cell 3", x.cell(0, 0, 3), NO_CELL);
        }
    }

    private static void promise14Number() {
        due.sentence("14: A RECORD comes: its number (wrong and refused ones have none)");
        RecordLabels x = new RecordLabels();
        due.is("the first node", x.record(0, 0, 0, 0, 0), 0);
        x.record(0, 5, 0, 0, 0);
        x.record(2, 0, 0, 0, 0);
        due.is("the second node", x.record(0, 0, 0, 0, 0), 1);
        x.record(1, 0, 0, 0, 0);
        due.is("the first arc", x.record(1, 0, 0, 1, 0), 0);
        x.record(1, 0, 0, 2, 0);
        due.is("the second arc", x.record(1, 0, 1, 0, 0), 1);
        Map<String, Long> changes = new HashMap<>();
        changes.put("count(0)", 1L);
        changes.put("cell(0, 0, 0)", 4L);
        changes.put("cell(0, 0, 1)", 1000L);
        changes.put("cell(0, 0, 2)", 25L);
        changes.put("part(0)", 4L);
        changes.put("part(1)", 1000L);
        changes.put("part(2)", 25L);
        effect.only(World.NEW, "a node of all that is greatest", y -> y.record(0, 4, 1000, 25, 0), 0, changes);
    }

    private static void promise15BadTable() {
        due.sentence("15: BAD: no TABLE");
        for (int table : NO_TABLES) {
            effect.none("lay of table " + table, x -> x.lay(table, 0, 0, 1), RecordLabels.BAD);
        }
    }

    private static void promise15BadRecord() {
        due.sentence("15: BAD: no RECORD");
        for (int table = 0; table < 2; table++) {
            int of = table;
            int[] never = {-1, 30, 31, LEAST, MOST};
            for (int record : never) {
                effect.none("lay of record " + record + " of " + table, x -> x.lay(of, record, 1, 1), RecordLabels.BAD);
            }
            for (World world : World.values()) {
                int size = (int) effect.before(world, "count(" + table + ")");
                effect.none(world, "lay behind the last of " + table, x -> x.lay(of, size, 1, 1), RecordLabels.BAD);
            }
        }
    }

    private static void promise15BadItem() {
        due.sentence("15: BAD: no ITEM");
        for (int table = 0; table < 2; table++) {
            int of = table;
            int[] never = {-1, 3 + table, 5, LEAST, MOST};
            for (int item : never) {
                effect.none("lay of item " + item + " of " + table, x -> x.lay(of, 0, item, 1), RecordLabels.BAD);
            }
        }
    }

    private static void promise15Unchecked() {
        due.sentence("15: The CELL of an ITEM becomes v .. unchecked: 1");
        int[][] cells = {{0, 1}, {1, 1}, {1, 2}, {1, 3}};
        int[] all = {LEAST, NO_CELL, -1, 0, 1000, 1001, 1000000, 1000001, MOST};
        World[] worlds = {World.BUSY, World.FAILED, World.NODES_FULL, World.ARCS_FULL};
        for (World world : worlds) {
            for (int[] cell : cells) {
                int last = (int) effect.before(world, "count(" + cell[0] + ")") - 1;
                for (int v : all) {
                    String call = "cell(" + cell[0] + ", " + last + ", " + cell[1] + ")";
                    effect.only(world, call + " becomes " + v, x -> x.lay(cell[0], last, cell[1], v), 1, Map.of(call, (long) v));
                }
            }
        }
    }

    private static void promise15AnyOtherIsEmpty() {
        due.sentence("15: of a CONSTANT by CODE; any other: EMPTY");
        int[][] cells = {{0, 0, 5}, {0, 2, 26}, {1, 0, 7}};
        World[] worlds = {World.BUSY, World.FAILED, World.NODES_FULL, World.ARCS_FULL};
        for (World world : worlds) {
            for (int[] cell : cells) {
                int[] all = {LEAST, -2, -1, 0, cell[2] - 1, cell[2], cell[2] + 1, MOST};
                for (int v : all) {
                    long held = v >= 0 && v < cell[2] ? v : EMPTY;
                    String call = "cell(" + cell[0] + ", 0, " + cell[1] + ")";
                    effect.only(world, call + " becomes " + v, x -> x.lay(cell[0], 0, cell[1], v), 1, Map.of(call, held));
                }
            }
        }
    }

    private static void promise16NoSuchCell() {
        due.sentence("16: BAD, as -2000000000: no such one");
        for (int table : NO_TABLES) {
            effect.none("cell of table " + table, x -> x.cell(table, 0, 0), NO_CELL);
        }
        for (int table = 0; table < 2; table++) {
            int of = table;
            int[] noRecords = {-1, 30, 31, LEAST, MOST};
            for (int record : noRecords) {
                effect.none("cell of record " + record + " of " + table, x -> x.cell(of, record, 0), NO_CELL);
            }
            int[] noItems = {-1, 3 + table, 5, LEAST, MOST};
            for (int item : noItems) {
                effect.none("cell of item " + item + " of " + table, x -> x.cell(of, 0, item), NO_CELL);
            }
            for (World world : World.values()) {
                int size = (int) effect.before(world, "count(" + table + ")");
                effect.none(world, "cell behind the last of " + table, x -> x.cell(of, size, 0), NO_CELL);
            }
        }
    }

    private static void promise16Empty() {
        due.sentence("16: a CONSTANT's CODE, -1 for EMPTY");
        int[][] cells = {{0, 0, 5}, {0, 2, 26}, {1, 0, 7}};
        for (int[] cell : cells) {
            RecordLabels x = plain();
            for (int code = 0; code < cell[2]; code++) {
                x.lay(cell[0], 0, cell[1], code);
                due.is("cell " + cell[0] + " " + cell[1], x.cell(cell[0], 0, cell[1]), code);
            }
            x.lay(cell[0], 0, cell[1], cell[2]);
            due.is("EMPTY cell " + cell[0] + " " + cell[1], x.cell(cell[0], 0, cell[1]), -1);
            for (int kind = 0; kind < 3; kind++) {
                x.swap(kind, 0, Names.size(kind) - 1);
            }
            due.is("EMPTY cell after exchanges", x.cell(cell[0], 0, cell[1]), -1);
        }
    }

    private static void promise16Numbers() {
        due.sentence("16: What is in it: a number");
        int[][] cells = {{0, 1}, {1, 1}, {1, 2}, {1, 3}};
        int[] all = {LEAST, NO_CELL, -1, 0, 1, 25, 26, MOST};
        for (int[] cell : cells) {
            RecordLabels x = plain();
            for (int v : all) {
                x.lay(cell[0], 0, cell[1], v);
                due.is("cell " + cell[0] + " " + cell[1], x.cell(cell[0], 0, cell[1]), v);
            }
            x.lay(cell[0], 0, cell[1], 0);
            for (int kind = 0; kind < 3; kind++) {
                x.swap(kind, 0, 1);
            }
            due.is("a number is no code " + cell[0] + " " + cell[1], x.cell(cell[0], 0, cell[1]), 0);
        }
    }

    private static void promise17Bad() {
        due.sentence("17: BAD (the TABLE, the RECORD; not counted as wrong)");
        for (int table : NO_TABLES) {
            effect.none("back of table " + table, x -> x.back(table, 0), RecordLabels.BAD);
        }
        for (int table = 0; table < 2; table++) {
            int of = table;
            int[] never = {-1, 30, 31, LEAST, MOST};
            for (int record : never) {
                effect.none("back of record " + record + " of " + table, x -> x.back(of, record), RecordLabels.BAD);
            }
            for (World world : World.values()) {
                int size = (int) effect.before(world, "count(" + table + ")");
                effect.none(world, "back behind the last of " + table, x -> x.back(of, size), RecordLabels.BAD);
            }
        }
    }

    private static void promise17Wrong() {
        due.sentence("17: -10 less the ITEM that is wrong (counted; nothing else changes)");
        wrong(World.BUSY, "back of a node without a sign", x -> x.back(0, 2), -12);
        wrong(World.BUSY, "back of an arc to no node", x -> x.back(1, 1), -12);
        int[][] wrongCells = {
            {0, 0, 5, -10}, {0, 1, -1, -11}, {0, 1, 1001, -11}, {0, 2, 26, -12},
            {1, 0, 7, -10}, {1, 1, -1, -11}, {1, 2, 30, -12}, {1, 3, -1, -13}, {1, 3, 1000001, -13}
        };
        for (int[] w : wrongCells) {
            String call = "cell(" + w[0] + ", 0, " + w[1] + ")";
            long held = w[1] == 0 || w[0] == 0 && w[1] == 2 ? EMPTY : w[2];
            Map<String, Long> changes = Map.of(call, held, "count(3)", 1L);
            effect.only(World.FAILED, "back with " + call + " of " + w[2], x -> {
                x.lay(w[0], 0, w[1], w[2]);
                return x.back(w[0], 0);
            }, w[3], changes);
        }
    }

    private static void promise17Right() {
        due.sentence("17: A RECORD is put together of its CELLS: 1, and part() tells it");
        Map<String, Long> node = Map.of("part(0)", 3L, "part(1)", 9L, "part(2)", 1L, "part(3)", NONE);
        effect.only(World.FAILED, "back of a node", x -> x.back(0, 0), 1, node);
        Map<String, Long> arc = Map.of("part(0)", 3L, "part(1)", 1L, "part(2)", 0L, "part(3)", 6L);
        effect.only(World.FAILED, "back of the last arc", x -> x.back(1, 1), 1, arc);
        Map<String, Long> last = Map.of("part(0)", 4L, "part(1)", 986L, "part(2)", 3L, "part(3)", NONE);
        effect.only(World.NODES_FULL, "back of the 30th node", x -> x.back(0, 29), 1, last);
        Map<String, Long> lastArc = Map.of("part(0)", 1L, "part(1)", 1L, "part(2)", 0L, "part(3)", 30L);
        effect.only(World.ARCS_FULL, "back of the 30th arc", x -> x.back(1, 29), 1, lastArc);
    }

    private static void promise18NoneBefore() {
        due.sentence("18: NONE: there is none");
        for (int i = -1; i < 5; i++) {
            int of = i;
            effect.none(World.NEW, "part " + i, x -> x.part(of), NONE);
            RecordLabels x = new RecordLabels();
            x.record(0, 5, 0, 0, 0);
            x.record(1, 0, 0, 1, 0);
            x.record(2, 0, 0, 0, 0);
            x.back(0, 0);
            due.is("part " + i + " after wrong and refused ones", x.part(i), NONE);
        }
    }

    private static void promise18NoSuchItem() {
        due.sentence("18: NONE: .. no such ITEM");
        int[] never = {-1, 4, 5, LEAST, MOST};
        for (int i : never) {
            effect.none("part " + i, x -> x.part(i), NONE);
        }
        effect.none(World.FAILED, "part 3 of a node", x -> x.part(3), NONE);
        effect.none(World.FAILED, "part 2 of a node", x -> x.part(2), 2);
        effect.none(World.BUSY, "part 3 of an arc", x -> x.part(3), 1000000);
        RecordLabels x = World.BUSY.made();
        x.back(0, 0);
        due.is("part 3 of a node behind an arc", x.part(3), NONE);
    }

    private static void promise18WhatIsWrongOrRefused() {
        due.sentence("18: the RECORD that was put together at last (what is refused or wrong is not)");
        RecordLabels x = World.NODES_FULL.made();
        int[] parts = {1, 29, 0, 17};
        x.record(0, 0, 0, 0, 0);
        x.record(2, 0, 0, 0, 0);
        x.record(1, 0, 0, 0, 0);
        x.back(0, 30);
        x.back(2, 0);
        x.lay(0, 3, 1, 1001);
        x.back(0, 3);
        for (int i = 0; i < 4; i++) {
            due.is("part " + i, x.part(i), parts[i]);
        }
    }

    private static void promise18AtLast() {
        due.sentence("18: put together at last (by record() or back()), CONSTANTS as CODES");
        RecordLabels x = plain();
        due.is("by record, an arc's cost", x.part(3), 0);
        x.back(0, 1);
        due.is("by back, a node's weight", x.part(1), 1);
        World.fillWithAll(x, 0, 1);
        x.filter(1, 0, 3, 0, 9);
        x.sum(1);
        due.is("not by filter or sum", x.part(3), NONE);
        x.lay(0, 1, 1, 900);
        x.lay(0, 1, 0, EMPTY);
        due.is("laying puts nothing together, the weight", x.part(1), 1);
        due.is("laying puts nothing together, the constant", x.part(0), 1);
        x.swap(0, 1, 4);
        due.is("its code of now", x.part(0), 4);
        x.swap(2, 1, 25);
        due.is("its sign's code of now", x.part(2), 25);
        x.record(0, 0, 7, 0, 0);
        due.is("by record again", x.part(1), 7);
    }
}
