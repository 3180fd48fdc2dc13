/** Promises 14 to 22: the calls of records. */
public final class RecordsTest {
    private static final int NO_CELL = -2000000000;
    private static final int[] NO_TABLES = {-1, 2, Integer.MIN_VALUE, Integer.MAX_VALUE};

    private static final Due due = new Due();

    public static void main(String[] args) {
        promise14RecordOfNodes();
        promise14RecordOfArcs();
        promise14RecordFull();
        promise15Lay();
        promise16Cell();
        promise17Back();
        promise17BackOfArcs();
        promise18Part();
        promise19Filter();
        promise19FilterRefusals();
        promise20Found();
        promise21Sum();
        promise21SumStarts();
        promise22Count();
        due.end();
    }

    /** Three nodes and two arcs, all right. */
    private static RecordLabels filled() {
        RecordLabels x = new RecordLabels();
        x.record(0, 0, 10, 0, 0);
        x.record(0, 1, 20, 1, 0);
        x.record(0, 2, 30, 25, 0);
        x.record(1, 0, 0, 1, 100);
        x.record(1, 6, 2, 1, 200);
        return x;
    }

    private static void promise14RecordOfNodes() {
        RecordLabels x = new RecordLabels();
        for (int table : NO_TABLES) {
            due.is("record: table " + table, x.record(table, 0, 0, 0, 0), RecordLabels.BAD);
        }
        due.is("record: all least", x.record(0, 0, 0, 0, Integer.MIN_VALUE), 0);
        due.is("record: all greatest", x.record(0, 4, 1000, 25, Integer.MAX_VALUE), 1);
        int[][] wrong = {
            {-1, 0, 0, 0}, {5, 0, 0, 0}, {Integer.MAX_VALUE, 0, 0, 0}, {5, -1, 26, 0},
            {0, -1, 0, 1}, {0, 1001, 0, 1}, {0, Integer.MIN_VALUE, 0, 1}, {0, 1001, 26, 1},
            {0, 0, -1, 2}, {0, 0, 26, 2}, {0, 0, Integer.MAX_VALUE, 2}
        };
        for (int[] w : wrong) {
            due.is("record: wrong node " + w[0] + " " + w[1] + " " + w[2], x.record(0, w[0], w[1], w[2], 0), -10 - w[3]);
        }
        due.is("record: wrong ones do not come", x.count(0), 2);
        due.is("record: wrong ones are counted", x.count(3), wrong.length);
        due.is("record: wrong ones are not put together", x.part(1), 1000);
        x.swap(0, 0, 3);
        x.swap(2, 0, 7);
        due.is("record: by the codes of now", x.record(0, 3, 1, 7, 0), 2);
        x.swap(0, 0, 3);
        x.swap(2, 0, 7);
        due.is("record: holds a constant", x.cell(0, 2, 0), 0);
        due.is("record: holds a sign", x.cell(0, 2, 2), 0);
        due.is("record: starts nothing", x.started(0) + x.started(2), 0);
    }

    private static void promise14RecordOfArcs() {
        RecordLabels x = new RecordLabels();
        due.is("record: an arc without nodes", x.record(1, 0, 0, 1, 0), -11);
        x.record(0, 0, 0, 0, 0);
        due.is("record: an arc with one node", x.record(1, 0, 0, 1, 0), -12);
        due.is("record: an arc from a node to itself", x.record(1, 0, 0, 0, 0), -12);
        x.record(0, 0, 0, 0, 0);
        due.is("record: least", x.record(1, 0, 0, 1, 0), 0);
        due.is("record: greatest", x.record(1, 6, 1, 0, 1000000), 1);
        int[][] wrong = {
            {-1, 0, 1, 0, 0}, {7, 0, 1, 0, 0}, {7, 2, 2, -1, 0},
            {0, -1, 0, 0, 1}, {0, 2, 0, 0, 1}, {0, 2, 2, -1, 1}, {0, -1, -1, 0, 1},
            {0, 0, -1, 0, 2}, {0, 0, 2, 0, 2}, {0, 0, 2, -1, 2}, {0, 1, 1, 0, 2},
            {0, 0, 1, -1, 3}, {0, 0, 1, 1000001, 3}, {0, 1, 1, -1, 3}, {0, 0, 1, Integer.MIN_VALUE, 3}
        };
        for (int[] w : wrong) {
            String what = w[0] + " " + w[1] + " " + w[2] + " " + w[3];
            due.is("record: wrong arc " + what, x.record(1, w[0], w[1], w[2], w[3]), -10 - w[4]);
        }
        due.is("record: wrong arcs do not come", x.count(1), 2);
        x.lay(0, 1, 1, -1);
        due.is("record: a node that is wrong is there all the same", x.record(1, 0, 0, 1, 0), 2);
    }

    private static void promise14RecordFull() {
        RecordLabels x = new RecordLabels();
        for (int i = 0; i < 30; i++) {
            due.is("record: node " + i, x.record(0, i % 5, i, i % 26, 0), i);
        }
        due.is("record: the 31st node", x.record(0, 0, 0, 0, 0), RecordLabels.FULL);
        due.is("record: FULL ahead of what is wrong", x.record(0, 5, 0, 0, 0), RecordLabels.FULL);
        due.is("record: FULL puts nothing together", x.part(1), 29);
        for (int i = 0; i < 30; i++) {
            due.is("record: arc " + i, x.record(1, i % 7, i, (i + 1) % 30, i), i);
        }
        due.is("record: the 31st arc", x.record(1, 0, 0, 1, 0), RecordLabels.FULL);
        due.is("record: FULL ahead of a wrong arc", x.record(1, 7, 0, 1, 0), RecordLabels.FULL);
        due.is("record: BAD when all is full", x.record(2, 0, 0, 1, 0), RecordLabels.BAD);
        due.is("record: FULL is not wrong", x.count(3), 0);
        due.is("record: 30 nodes", x.count(0), 30);
        due.is("record: 30 arcs", x.count(1), 30);
        due.is("record: the last cell", x.cell(1, 29, 1), 29);
        x.clear(0, 1);
        x.join(3, 0, 0, 0);
        due.is("filter: all 30", x.filter(1, 0, 3, 0, 29), 30);
        due.is("found: the last of 30", x.found(29), 29);
        due.is("found: behind the last of 30", x.found(30), RecordLabels.NONE);
    }

    private static void promise15Lay() {
        RecordLabels x = filled();
        for (int table : NO_TABLES) {
            due.is("lay: table " + table, x.lay(table, 0, 0, 0), RecordLabels.BAD);
        }
        int[][] none = {{0, -1, 0}, {0, 3, 0}, {0, 0, -1}, {0, 0, 3}, {1, 2, 0}, {1, -1, 0}, {1, 0, 4}, {1, 0, -1},
            {0, Integer.MAX_VALUE, 0}, {0, 0, Integer.MAX_VALUE}, {1, Integer.MIN_VALUE, 0}, {1, 0, Integer.MIN_VALUE}};
        for (int[] n : none) {
            due.is("lay: no cell " + n[0] + " " + n[1] + " " + n[2], x.lay(n[0], n[1], n[2], 0), RecordLabels.BAD);
        }
        int[] numbers = {0, -1, 1001, Integer.MAX_VALUE, Integer.MIN_VALUE};
        for (int v : numbers) {
            due.is("lay: a weight " + v, x.lay(0, 2, 1, v), 1);
            due.is("lay: the weight is " + v, x.cell(0, 2, 1), v);
            due.is("lay: a from " + v, x.lay(1, 1, 1, v), 1);
            due.is("lay: the from is " + v, x.cell(1, 1, 1), v);
            due.is("lay: a to " + v, x.lay(1, 1, 2, v), 1);
            due.is("lay: the to is " + v, x.cell(1, 1, 2), v);
            due.is("lay: a cost " + v, x.lay(1, 1, 3, v), 1);
            due.is("lay: the cost is " + v, x.cell(1, 1, 3), v);
        }
        int[] noCodes = {-1, 26, 5, 7, Integer.MAX_VALUE, Integer.MIN_VALUE};
        for (int v : noCodes) {
            due.is("lay: a node " + v, x.lay(0, 0, 0, v), 1);
            due.is("lay: the node of " + v, x.cell(0, 0, 0), -1);
            due.is("lay: a sign " + v, x.lay(0, 0, 2, v), 1);
            due.is("lay: the sign of " + v, x.cell(0, 0, 2), v == 5 || v == 7 ? v : -1);
            due.is("lay: an arc " + v, x.lay(1, 0, 0, v), 1);
            due.is("lay: the arc of " + v, x.cell(1, 0, 0), v == 5 ? 5 : -1);
        }
        due.is("lay: a node again", x.lay(0, 0, 0, 4), 1);
        due.is("lay: the node", x.cell(0, 0, 0), 4);
        due.is("lay: other records stay", x.cell(0, 1, 0), 1);
        due.is("lay: is not checked", x.count(3), 0);
        x.swap(0, 4, 1);
        due.is("lay: holds a constant", x.cell(0, 0, 0), 1);
        x.lay(0, 0, 0, 4);
        due.is("lay: by the code of now", x.cell(0, 0, 0), x.code(0, Due.nameOf("road")));
    }

    private static void promise16Cell() {
        RecordLabels x = filled();
        for (int table : NO_TABLES) {
            due.is("cell: table " + table, x.cell(table, 0, 0), NO_CELL);
        }
        int[][] none = {{0, -1, 0}, {0, 3, 0}, {0, 0, -1}, {0, 0, 3}, {1, -1, 0}, {1, 2, 0}, {1, 0, -1}, {1, 0, 4},
            {0, Integer.MAX_VALUE, 0}, {0, 0, Integer.MAX_VALUE}, {1, Integer.MIN_VALUE, 0}, {1, 0, Integer.MIN_VALUE}};
        for (int[] n : none) {
            due.is("cell: none " + n[0] + " " + n[1] + " " + n[2], x.cell(n[0], n[1], n[2]), NO_CELL);
        }
        int[] node = {2, 30, 25};
        for (int item = 0; item < 3; item++) {
            due.is("cell: node 2, item " + item, x.cell(0, 2, item), node[item]);
        }
        int[] arc = {6, 2, 1, 200};
        for (int item = 0; item < 4; item++) {
            due.is("cell: arc 1, item " + item, x.cell(1, 1, item), arc[item]);
        }
        x.swap(2, 25, 0);
        due.is("cell: a sign's code of now", x.cell(0, 2, 2), 0);
        x.swap(1, 6, 3);
        due.is("cell: an arc's code of now", x.cell(1, 1, 0), 3);
        due.is("cell: numbers are no codes", x.cell(1, 1, 1), 2);
        x.lay(0, 0, 0, -1);
        x.swap(0, 0, 1);
        due.is("cell: EMPTY stays so", x.cell(0, 0, 0), -1);
    }

    private static void promise17Back() {
        RecordLabels x = filled();
        for (int table : NO_TABLES) {
            due.is("back: table " + table, x.back(table, 0), RecordLabels.BAD);
        }
        int[][] none = {{0, -1}, {0, 3}, {1, -1}, {1, 2}, {0, Integer.MAX_VALUE}, {1, Integer.MIN_VALUE}};
        for (int[] n : none) {
            due.is("back: no record " + n[0] + " " + n[1], x.back(n[0], n[1]), RecordLabels.BAD);
        }
        due.is("back: BAD is not wrong", x.count(3), 0);
        due.is("back: BAD leaves the part", x.part(3), 200);
        due.is("back: a node", x.back(0, 1), 1);
        due.is("back: its part", x.part(1), 20);
        x.lay(0, 1, 2, -1);
        due.is("back: EMPTY sign", x.back(0, 1), -12);
        x.lay(0, 1, 1, 1001);
        due.is("back: weight first", x.back(0, 1), -11);
        x.lay(0, 1, 1, -1);
        due.is("back: weight below 0", x.back(0, 1), -11);
        x.lay(0, 1, 0, 5);
        due.is("back: EMPTY node first", x.back(0, 1), -10);
        due.is("back: wrong ones are counted", x.count(3), 4);
        due.is("back: the part is kept", x.part(1), 20);
        x.lay(0, 1, 0, 4);
        x.lay(0, 1, 1, 1000);
        x.lay(0, 1, 2, 9);
        due.is("back: mended", x.back(0, 1), 1);
        due.is("back: mended, its node", x.part(0), 4);
        due.is("back: mended, its weight", x.part(1), 1000);
        due.is("back: mended, its sign", x.part(2), 9);
        due.is("back: makes no record", x.count(0), 3);
    }

    private static void promise17BackOfArcs() {
        RecordLabels x = filled();
        x.lay(1, 0, 2, 0);
        due.is("back: from and to are one", x.back(1, 0), -12);
        x.lay(1, 0, 3, 1000001);
        due.is("back: the cost ahead of that", x.back(1, 0), -13);
        x.lay(1, 0, 3, 1000000);
        x.lay(1, 0, 2, 3);
        due.is("back: to is no record", x.back(1, 0), -12);
        x.record(0, 0, 0, 0, 0);
        due.is("back: now it is one", x.back(1, 0), 1);
        due.is("back: its to", x.part(2), 3);
        x.lay(1, 0, 1, -1);
        due.is("back: from below 0", x.back(1, 0), -11);
        x.lay(1, 0, 0, 7);
        due.is("back: EMPTY arc", x.back(1, 0), -10);
        due.is("back: wrong arcs are counted", x.count(3), 5);
    }

    private static void promise18Part() {
        RecordLabels x = new RecordLabels();
        x.record(0, 5, 0, 0, 0);
        due.is("part: none when the first was wrong", x.part(0), RecordLabels.NONE);
        x.record(0, 3, 44, 8, 77);
        int[] node = {3, 44, 8, RecordLabels.NONE};
        for (int i = 0; i < 4; i++) {
            due.is("part: of a node " + i, x.part(i), node[i]);
        }
        x.record(0, 0, 0, 0, 0);
        x.record(1, 6, 1, 0, 99);
        int[] arc = {6, 1, 0, 99, RecordLabels.NONE};
        for (int i = 0; i < 5; i++) {
            due.is("part: of an arc " + i, x.part(i), arc[i]);
        }
        due.is("part: -1", x.part(-1), RecordLabels.NONE);
        due.is("part: greatest", x.part(Integer.MAX_VALUE), RecordLabels.NONE);
        due.is("part: least", x.part(Integer.MIN_VALUE), RecordLabels.NONE);
        x.lay(1, 0, 3, 5);
        due.is("part: laying does not change it", x.part(3), 99);
        x.clear(0, 0);
        x.put(0, 0, true);
        x.filter(0, 0, 1, 0, 1000);
        x.sum(0);
        due.is("part: filter and sum do not change it", x.part(3), 99);
        x.swap(1, 6, 0);
        due.is("part: the code of now", x.part(0), 0);
        x.back(0, 0);
        x.swap(2, 8, 9);
        due.is("part: a sign's code of now", x.part(2), 9);
        due.is("part: a node has no item 3", x.part(3), RecordLabels.NONE);
    }

    private static void finds(String what, RecordLabels x, int got, int... records) {
        due.is(what + ": how many", got, records.length);
        for (int i = 0; i < records.length; i++) {
            due.is(what + ": found " + i, x.found(i), records[i]);
        }
        due.is(what + ": none behind", x.found(records.length), RecordLabels.NONE);
    }

    private static void promise19Filter() {
        RecordLabels x = filled();
        x.put(0, 0, true);
        x.put(0, 2, true);
        finds("filter: in the set", x, x.filter(0, 0, 1, 0, 1000), 0, 2);
        finds("filter: low and high count", x, x.filter(0, 0, 1, 10, 30), 0, 2);
        finds("filter: above low", x, x.filter(0, 0, 1, 11, 30), 2);
        finds("filter: below high", x, x.filter(0, 0, 1, 10, 29), 0);
        finds("filter: low above high", x, x.filter(0, 0, 1, 30, 10));
        finds("filter: by sign", x, x.filter(0, 0, 2, 25, 25), 2);
        x.swap(2, 25, 3);
        finds("filter: by the sign's code of now", x, x.filter(0, 0, 2, 3, 3), 2);
        x.swap(0, 2, 1);
        finds("filter: the set holds constants", x, x.filter(0, 0, 1, 0, 1000), 0, 2);
        finds("filter: an empty set", x, x.filter(0, 1, 1, 0, 1000));
        x.lay(0, 0, 2, -1);
        finds("filter: right ones alone", x, x.filter(0, 0, 1, Integer.MIN_VALUE, Integer.MAX_VALUE), 2);
        x.lay(0, 2, 0, 5);
        finds("filter: EMPTY is in no set", x, x.filter(0, 0, 1, 0, 1000));
        x.clear(3, 1);
        x.join(3, 3, 3, 3);
        finds("filter: arcs by from", x, x.filter(1, 3, 1, 1, 2), 1);
        finds("filter: arcs by to", x, x.filter(1, 3, 2, 1, 1), 0, 1);
        finds("filter: arcs by cost", x, x.filter(1, 3, 3, 100, 199), 0);
        x.lay(1, 1, 2, 2);
        finds("filter: an arc whose ends are one is wrong", x, x.filter(1, 3, 3, 0, 1000000), 0);
        due.is("filter: counts nothing as wrong", x.count(3), 0);
        due.is("filter: starts nothing", x.started(0) + x.started(1) + x.started(2), 0);
    }

    private static void promise19FilterRefusals() {
        RecordLabels x = filled();
        x.put(0, 1, true);
        x.clear(1, 1);
        x.clear(2, 2);
        x.filter(0, 0, 1, 0, 1000);
        for (int table : NO_TABLES) {
            due.is("filter: table " + table, x.filter(table, 0, 1, 0, 9), RecordLabels.BAD);
        }
        int[] noSets = {-1, 10, Integer.MIN_VALUE, Integer.MAX_VALUE};
        for (int set : noSets) {
            due.is("filter: set " + set, x.filter(0, set, 1, 0, 9), RecordLabels.BAD);
        }
        int[] noItems = {-1, 0, 4, Integer.MIN_VALUE, Integer.MAX_VALUE};
        for (int item : noItems) {
            due.is("filter: node item " + item, x.filter(0, 0, item, 0, 9), RecordLabels.BAD);
            due.is("filter: arc item " + item, x.filter(1, 1, item, 0, 9), RecordLabels.BAD);
        }
        due.is("filter: nodes have no item 3", x.filter(0, 0, 3, 0, 9), RecordLabels.BAD);
        due.is("filter: BAD ahead of STATE", x.filter(0, 1, 3, 0, 9), RecordLabels.BAD);
        due.is("filter: nodes by arcs", x.filter(0, 1, 1, 0, 9), RecordLabels.STATE);
        due.is("filter: arcs by nodes", x.filter(1, 0, 1, 0, 9), RecordLabels.STATE);
        due.is("filter: nodes by signs", x.filter(0, 2, 2, 0, 9), RecordLabels.STATE);
        due.is("filter: arcs by signs", x.filter(1, 2, 1, 0, 9), RecordLabels.STATE);
        due.is("filter: refused leaves what was found", x.found(0), 1);
    }

    private static void promise20Found() {
        RecordLabels x = filled();
        due.is("found: none before a filter", x.found(0), RecordLabels.NONE);
        x.join(3, 0, 0, 0);
        x.filter(0, 0, 1, 0, 1000);
        due.is("found: the third", x.found(2), 2);
        due.is("found: -1", x.found(-1), RecordLabels.NONE);
        due.is("found: 3", x.found(3), RecordLabels.NONE);
        due.is("found: greatest", x.found(Integer.MAX_VALUE), RecordLabels.NONE);
        due.is("found: least", x.found(Integer.MIN_VALUE), RecordLabels.NONE);
        x.lay(0, 1, 1, -1);
        due.is("found: what is laid later does not change it", x.found(1), 1);
        x.filter(0, 0, 1, 0, 1000);
        due.is("found: the latest filter", x.found(1), 2);
        due.is("found: the latest found fewer", x.found(2), RecordLabels.NONE);
        x.filter(0, 0, 1, 7, 7);
        due.is("found: the latest found none", x.found(0), RecordLabels.NONE);
    }

    private static void promise21Sum() {
        RecordLabels x = new RecordLabels();
        for (int table : NO_TABLES) {
            due.is("sum: table " + table, x.sum(table), -1);
        }
        int[] weights = {1, 20, 300, 400, 5};
        for (int node = 0; node < 5; node++) {
            x.record(0, node, weights[node], 0, 0);
        }
        due.is("sum: of nodes", x.sum(0), 1 + 40 + 310 - 400 + 25);
        x.swap(0, 0, 4);
        due.is("sum: swap changes nothing", x.sum(0), 1 + 40 + 310 - 400 + 25);
        x.lay(0, 3, 2, -1);
        due.is("sum: right ones alone", x.sum(0), 1 + 40 + 310 + 25);
        x.lay(0, 4, 1, 1000);
        due.is("sum: a hill", x.sum(0), 1 + 40 + 310 + 1000000);
        int[][] arcs = {{0, 1000000}, {1, 0}, {2, 7}, {3, 7}, {3, 0}, {4, 7}, {4, 0}, {5, 1}, {5, 3}, {6, 11}};
        for (int[] arc : arcs) {
            x.record(1, arc[0], 0, 1, arc[1]);
        }
        due.is("sum: of arcs", x.sum(1), 1000001 - 1 + 3 + 14 + 2 + 7 + 11);
        due.is("sum: failures are counted", x.count(2), 3);
        x.sum(1);
        due.is("sum: and counted again", x.count(2), 6);
        due.is("sum: wrong ones are not counted", x.count(3), 0);
        due.is("sum: no result", x.result(), 0);
        RecordLabels y = new RecordLabels();
        y.record(0, 3, 9, 0, 0);
        due.is("sum: may be below 0", y.sum(0), -9);
        due.is("sum: that was no refusal", y.started(0), 1);
    }

    private static void promise21SumStarts() {
        RecordLabels x = filled();
        x.fail(0, true);
        x.fail(1, true);
        for (int record = 0; record < 3; record++) {
            x.lay(0, record, 1, -1);
        }
        due.is("sum: none is right", x.sum(0), 0);
        due.is("sum: nothing is started", x.started(0), 0);
        x.lay(0, 1, 1, 5);
        due.is("sum: START", x.sum(0), RecordLabels.START);
        due.is("sum: has failed", x.started(0), 2);
        due.is("sum: NO_START", x.sum(0), RecordLabels.NO_START);
        due.is("sum: a rule has NO_START, too", x.rule(0, 0, 0), RecordLabels.NO_START);
        x.lay(0, 1, 1, -1);
        due.is("sum: none is right, after NO_START", x.sum(0), 0);
        x.lay(1, 0, 0, 3);
        x.lay(1, 0, 3, 0);
        due.is("sum: START ahead of ZERO", x.sum(1), RecordLabels.START);
        due.is("sum: START counts no failure", x.count(2), 0);
        due.is("sum: of a BAD table after all", x.sum(2), -1);
        RecordLabels y = filled();
        y.lay(1, 0, 0, 3);
        y.lay(1, 0, 3, 0);
        y.lay(1, 1, 0, -1);
        due.is("sum: one that fails", y.sum(1), 0);
        due.is("sum: it starts its kind", y.started(1), 1);
        due.is("sum: signs are not started", y.started(2), 0);
        y.rule(0, 0, 0);
        due.is("sum: started before", y.sum(0), 10 + 40 + 40);
    }

    private static void promise22Count() {
        RecordLabels x = filled();
        due.is("count: nodes", x.count(0), 3);
        due.is("count: arcs", x.count(1), 2);
        int[] noWhats = {-1, 4, Integer.MIN_VALUE, Integer.MAX_VALUE};
        for (int what : noWhats) {
            due.is("count: what " + what, x.count(what), RecordLabels.BAD);
        }
        x.rule(1, 3, 0);
        x.rule(1, 5, 3);
        x.rule(1, 6, -1);
        x.rule(1, 9, -1);
        due.is("count: failures", x.count(2), 3);
        x.record(1, 0, 0, 0, 0);
        x.lay(0, 0, 0, -1);
        x.back(0, 0);
        x.back(0, 9);
        due.is("count: wrong", x.count(3), 2);
        due.is("count: a wrong node is still there", x.count(0), 3);
    }
}
