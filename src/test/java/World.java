/** Objects in states of many sorts: what a call refuses, it refuses in each of them. */
enum World {
    /** As it is made. */
    NEW,
    /** Other orders; nodes started, arcs told to fail, signs neither; sets, records, wrong cells. */
    BUSY,
    /** Arcs started, with failures; signs failed; nodes told to fail; a node put together at last. */
    FAILED,
    /** 30 nodes, found by a filter; an arc put together at last. */
    NODES_FULL,
    /** 30 arcs between two nodes, all kinds started. */
    ARCS_FULL;

    static final int MOST_RECORDS = 30;

    RecordLabels made() {
        RecordLabels x = new RecordLabels();
        switch (this) {
            case BUSY:
                busy(x);
                break;
            case FAILED:
                failed(x);
                break;
            case NODES_FULL:
                nodesFull(x);
                break;
            case ARCS_FULL:
                arcsFull(x);
                break;
            default:
        }
        return x;
    }

    static void fill(RecordLabels x, int set, int kind, int... codes) {
        x.clear(set, kind);
        for (int code : codes) {
            x.put(set, code, true);
        }
    }

    static void fillWithAll(RecordLabels x, int set, int kind) {
        x.clear(set, kind);
        x.join(3, set, set, set);
    }

    private static void busy(RecordLabels x) {
        x.swap(0, 0, 4);
        x.swap(1, 1, 5);
        x.swap(2, 0, 25);
        x.swap(2, 3, 25);
        x.rule(0, 2, 7);
        x.fail(1, true);
        fill(x, 0, 0, 1, 4);
        fill(x, 1, 1, 0, 6);
        fill(x, 2, 2, 0, 13, 25);
        fillWithAll(x, 3, 1);
        x.clear(4, 2);
        fillWithAll(x, 5, 0);
        fill(x, 9, 2, 5);
        x.record(0, 0, 1000, 25, 0);
        x.record(0, 1, 20, 0, 0);
        x.record(0, 4, 3, 7, 0);
        x.record(0, 4, 0, 8, 0);
        x.record(1, 0, 0, 3, 1000000);
        x.record(1, 5, 2, 1, 12);
        x.record(1, 6, 1, 0, 0);
        x.lay(0, 2, 2, -1);
        x.lay(1, 1, 2, 77);
        x.back(1, 1);
        x.record(0, 5, 0, 0, 0);
        x.back(1, 0);
        x.filter(0, 5, 1, 0, 1000);
    }

    private static void failed(RecordLabels x) {
        x.rule(1, 3, 0);
        x.rule(1, 5, 5);
        x.rule(1, 6, -2);
        x.rule(1, 0, 41);
        x.fail(2, true);
        x.rule(2, 0, 0);
        x.fail(0, true);
        fill(x, 8, 1, 2, 4);
        fillWithAll(x, 7, 2);
        x.record(0, 3, 9, 1, 0);
        x.record(0, 2, 8, 2, 0);
        x.record(1, 2, 0, 1, 5);
        x.record(1, 3, 1, 0, 6);
        x.back(0, 1);
        x.filter(1, 8, 3, 0, 9);
    }

    private static void nodesFull(RecordLabels x) {
        for (int i = 0; i < MOST_RECORDS; i++) {
            x.record(0, i % 5, 34 * i, i % 26, 0);
        }
        x.record(1, 1, MOST_RECORDS - 1, 0, 17);
        fillWithAll(x, 6, 0);
        x.filter(0, 6, 2, 0, 25);
    }

    private static void arcsFull(RecordLabels x) {
        x.record(0, 1, 1, 1, 0);
        x.record(0, 2, 2, 2, 0);
        for (int i = 0; i < MOST_RECORDS; i++) {
            x.record(1, i % 7, i % 2, 1 - i % 2, 1 + i);
        }
        fillWithAll(x, 2, 1);
        for (int kind = 0; kind < 3; kind++) {
            x.rule(kind, 1, 3);
        }
        x.filter(1, 2, 1, 1, 1);
    }
}
