import java.util.LinkedHashMap;
import java.util.Map;

/**
 * All that the calls tell of an object, each answer by its call, so that two objects can be held
 * against each other. What a kind was told can only be asked by telling it anew, so what is read
 * is to be let go.
 */
final class Told {
    private static final int KINDS = 3, SETS = 10, MOST_ITEMS = 4;

    private final RecordLabels x;
    private final Map<String, Long> answers = new LinkedHashMap<>();

    private Told(RecordLabels x) {
        this.x = x;
    }

    static Map<String, Long> of(RecordLabels x) {
        Told told = new Told(x);
        told.orders();
        told.members();
        told.cells();
        told.parts();
        told.theRest();
        return told.answers;
    }

    /** The same with a name in the place of each code: no exchange of codes may be seen in it. */
    static Map<String, Long> byNames(RecordLabels x) {
        Told told = new Told(x);
        told.namedMembers();
        told.namedCells();
        told.namedParts();
        told.theRest();
        return told.answers;
    }

    private void add(String call, long answer) {
        answers.put(call, answer);
    }

    private void orders() {
        for (int kind = 0; kind < KINDS; kind++) {
            String[] names = Names.of(kind);
            for (int i = 0; i < names.length; i++) {
                add("code(" + kind + ", " + names[i] + ")", x.code(kind, Due.nameOf(names[i])));
                add("name(" + kind + ", " + i + ")", x.name(kind, i));
            }
        }
    }

    private void members() {
        for (int set = 0; set < SETS; set++) {
            int size = x.about(set, 0);
            for (int i = 0; i <= size; i++) {
                add("member(" + set + ", " + i + ")", x.member(set, i));
            }
        }
    }

    private void namedMembers() {
        for (int set = 0; set < SETS; set++) {
            int size = x.about(set, 0);
            int kind = x.about(set, 1);
            for (int i = 0; i < size; i++) {
                add("set " + set + " has " + x.name(kind, x.member(set, i)), 1);
            }
        }
    }

    private void cells() {
        for (int table = 0; table < 2; table++) {
            int size = x.count(table);
            for (int record = 0; record < size; record++) {
                for (int item = 0; item < 3 + table; item++) {
                    add("cell(" + table + ", " + record + ", " + item + ")", x.cell(table, record, item));
                }
            }
        }
    }

    private void namedCells() {
        for (int table = 0; table < 2; table++) {
            int size = x.count(table);
            for (int record = 0; record < size; record++) {
                for (int item = 0; item < 3 + table; item++) {
                    String cell = "cell(" + table + ", " + record + ", " + item + ")";
                    add(cell, named(table, item, x.cell(table, record, item)));
                }
            }
        }
    }

    /** A name, or 0 of an EMPTY cell, where the item is a constant; else the number. */
    private long named(int table, int item, int v) {
        if (item == 0) {
            return x.name(table, v);
        }
        return table == 0 && item == 2 ? x.name(2, v) : v;
    }

    private void parts() {
        for (int i = 0; i <= MOST_ITEMS; i++) {
            add("part(" + i + ")", x.part(i));
        }
    }

    private void namedParts() {
        int table = x.part(MOST_ITEMS - 1) == RecordLabels.NONE ? 0 : 1;
        for (int i = 0; i <= MOST_ITEMS; i++) {
            add("part(" + i + ")", named(table, i, x.part(i)));
        }
    }

    private void theRest() {
        add("result()", x.result());
        for (int what = 0; what < 4; what++) {
            add("count(" + what + ")", x.count(what));
        }
        for (int set = 0; set < SETS; set++) {
            add("about(" + set + ", 0)", x.about(set, 0));
            add("about(" + set + ", 1)", x.about(set, 1));
        }
        for (int i = 0; i <= World.MOST_RECORDS; i++) {
            add("found(" + i + ")", x.found(i));
        }
        for (int kind = 0; kind < KINDS; kind++) {
            add("started(" + kind + ")", x.started(kind));
            add("fail(" + kind + ", true)", x.fail(kind, true));
        }
    }
}
