/** Promises 9 to 13: the calls of sets. */
public final class SetsTest {
    private static final int[] NO_SETS = {-1, 10, Integer.MIN_VALUE, Integer.MAX_VALUE};

    private static final Due due = new Due();

    public static void main(String[] args) {
        promise9Clear();
        promise10Put();
        promise11Join();
        promise11JoinRefusals();
        promise11JoinIntoItself();
        promise12Member();
        promise13About();
        due.end();
    }

    private static void fill(RecordLabels x, int set, int kind, int... codes) {
        x.clear(set, kind);
        for (int code : codes) {
            x.put(set, code, true);
        }
    }

    private static void members(String what, RecordLabels x, int set, int... codes) {
        due.is(what + ": how many", x.about(set, 0), codes.length);
        for (int i = 0; i < codes.length; i++) {
            due.is(what + ": member " + i, x.member(set, i), codes[i]);
        }
        due.is(what + ": none behind", x.member(set, codes.length), RecordLabels.NONE);
    }

    private static void promise9Clear() {
        RecordLabels x = new RecordLabels();
        fill(x, 9, 2, 0, 5, 25);
        for (int set : NO_SETS) {
            due.is("clear: set " + set, x.clear(set, 0), RecordLabels.BAD);
        }
        due.is("clear: kind -1", x.clear(9, -1), RecordLabels.BAD);
        due.is("clear: kind 3", x.clear(9, 3), RecordLabels.BAD);
        members("clear: refused changes nothing", x, 9, 0, 5, 25);
        due.is("clear: how many it had", x.clear(9, 1), 3);
        due.is("clear: its kind", x.about(9, 1), 1);
        members("clear: empty", x, 9);
        due.is("clear: again", x.clear(9, 1), 0);
        due.is("clear: other sets stay of kind 0", x.about(8, 1), 0);
    }

    private static void promise10Put() {
        RecordLabels x = new RecordLabels();
        for (int set : NO_SETS) {
            due.is("put: set " + set, x.put(set, 0, true), RecordLabels.BAD);
        }
        int[] noCodes = {-1, 5, Integer.MIN_VALUE, Integer.MAX_VALUE};
        for (int code : noCodes) {
            due.is("put: code " + code, x.put(0, code, true), RecordLabels.BAD);
            due.is("put: code " + code + " off", x.put(0, code, false), RecordLabels.BAD);
        }
        members("put: refused changes nothing", x, 0);
        due.is("put: a code of its kind alone", x.clear(1, 1), 0);
        due.is("put: 6 of arcs", x.put(1, 6, true), 0);
        due.is("put: 7 of arcs", x.put(1, 7, true), RecordLabels.BAD);
        x.clear(2, 2);
        due.is("put: 25 of signs", x.put(2, 25, true), 0);
        due.is("put: 26 of signs", x.put(2, 26, true), RecordLabels.BAD);
        due.is("put: was not", x.put(0, 4, true), 0);
        due.is("put: was", x.put(0, 4, true), 1);
        members("put: once", x, 0, 4);
        due.is("put: off, was", x.put(0, 4, false), 1);
        due.is("put: off, was not", x.put(0, 4, false), 0);
        members("put: off", x, 0);
        x.put(0, 0, true);
        x.swap(0, 0, 3);
        due.is("put: by the code of now", x.put(0, 3, true), 1);
        due.is("put: the old code is another constant", x.put(0, 0, true), 0);
    }

    private static void promise11Join() {
        RecordLabels x = new RecordLabels();
        fill(x, 0, 1, 0, 1, 2);
        fill(x, 1, 1, 2, 3);
        fill(x, 5, 2, 7);
        due.is("join: both", x.join(0, 0, 1, 5), 4);
        members("join: both", x, 5, 0, 1, 2, 3);
        due.is("join: of the first one's kind", x.about(5, 1), 1);
        due.is("join: in both", x.join(1, 0, 1, 5), 1);
        members("join: in both", x, 5, 2);
        due.is("join: first alone", x.join(2, 0, 1, 5), 2);
        members("join: first alone", x, 5, 0, 1);
        due.is("join: not in the first", x.join(3, 0, 1, 5), 4);
        members("join: not in the first", x, 5, 3, 4, 5, 6);
        due.is("join: the second may be of another kind", x.join(3, 1, 9, 5), 5);
        members("join: not in the first, another kind", x, 5, 0, 1, 4, 5, 6);
        members("join: the first stays", x, 0, 0, 1, 2);
        members("join: the second stays", x, 1, 2, 3);
        x.clear(6, 2);
        due.is("join: all signs", x.join(3, 6, 6, 7), 26);
        due.is("join: kind of all signs", x.about(7, 1), 2);
        due.is("join: not all signs", x.join(3, 7, 7, 8), 0);
        due.is("join: kind of an empty one", x.about(8, 1), 2);
        due.is("join: all nodes", x.join(3, 9, 0, 8), 5);
        x.swap(1, 0, 6);
        x.join(1, 0, 0, 5);
        members("join: constants, not codes", x, 5, 1, 2, 6);
    }

    private static void promise11JoinRefusals() {
        RecordLabels x = new RecordLabels();
        fill(x, 0, 1, 4);
        fill(x, 2, 2, 8);
        int[] noOps = {-1, 4, Integer.MIN_VALUE, Integer.MAX_VALUE};
        for (int op : noOps) {
            due.is("join: op " + op, x.join(op, 0, 0, 2), RecordLabels.BAD);
        }
        for (int op = 0; op < 4; op++) {
            for (int set : NO_SETS) {
                due.is("join: first " + set, x.join(op, set, 0, 2), RecordLabels.BAD);
                due.is("join: second " + set, x.join(op, 0, set, 2), RecordLabels.BAD);
                due.is("join: to " + set, x.join(op, 0, 0, set), RecordLabels.BAD);
            }
        }
        for (int op = 0; op < 3; op++) {
            due.is("join: two kinds, op " + op, x.join(op, 0, 1, 2), RecordLabels.STATE);
            due.is("join: BAD ahead of STATE, op " + op, x.join(op, 0, 1, 10), RecordLabels.BAD);
        }
        due.is("join: BAD op ahead of STATE", x.join(4, 0, 1, 2), RecordLabels.BAD);
        members("join: refused changes nothing", x, 2, 8);
        due.is("join: refused changes no kind", x.about(2, 1), 2);
    }

    private static void promise11JoinIntoItself() {
        RecordLabels x = new RecordLabels();
        fill(x, 0, 0, 0, 1);
        fill(x, 1, 0, 1, 2);
        due.is("join: into the first", x.join(2, 0, 1, 0), 1);
        members("join: into the first", x, 0, 0);
        due.is("join: into the second", x.join(0, 0, 1, 1), 3);
        members("join: into the second", x, 1, 0, 1, 2);
        due.is("join: one with itself", x.join(2, 1, 1, 1), 0);
        members("join: one with itself", x, 1);
        due.is("join: not in itself", x.join(3, 0, 0, 0), 4);
        members("join: not in itself", x, 0, 1, 2, 3, 4);
    }

    private static void promise12Member() {
        RecordLabels x = new RecordLabels();
        for (int set : NO_SETS) {
            due.is("member: set " + set, x.member(set, 0), RecordLabels.BAD);
        }
        due.is("member: of an empty set", x.member(0, 0), RecordLabels.NONE);
        fill(x, 0, 2, 25, 0, 13);
        members("member: by codes", x, 0, 0, 13, 25);
        due.is("member: -1", x.member(0, -1), RecordLabels.NONE);
        due.is("member: greatest", x.member(0, Integer.MAX_VALUE), RecordLabels.NONE);
        due.is("member: least", x.member(0, Integer.MIN_VALUE), RecordLabels.NONE);
        x.swap(2, 0, 20);
        members("member: by the codes of now", x, 0, 13, 20, 25);
        x.swap(2, 20, 25);
        members("member: two of the set exchanged", x, 0, 13, 20, 25);
        due.is("member: z has code 20", x.code(2, 'z'), 20);
    }

    private static void promise13About() {
        RecordLabels x = new RecordLabels();
        for (int set : NO_SETS) {
            due.is("about: set " + set, x.about(set, 0), RecordLabels.BAD);
            due.is("about: kind of set " + set, x.about(set, 1), RecordLabels.BAD);
        }
        int[] noWhats = {-1, 2, Integer.MIN_VALUE, Integer.MAX_VALUE};
        for (int what : noWhats) {
            due.is("about: what " + what, x.about(0, what), RecordLabels.BAD);
        }
        fill(x, 9, 1, 0, 6);
        due.is("about: how many", x.about(9, 0), 2);
        due.is("about: kind", x.about(9, 1), 1);
        x.swap(1, 0, 5);
        due.is("about: how many after swap", x.about(9, 0), 2);
    }
}
