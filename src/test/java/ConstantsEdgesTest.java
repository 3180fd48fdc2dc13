import java.util.HashMap;
import java.util.Map;

/** The edges of promises 1 to 8, each sentence with a test of its own. */
public final class ConstantsEdgesTest {
    private static final int LEAST = Integer.MIN_VALUE, MOST = Integer.MAX_VALUE;
    private static final int[] NO_KINDS = {-1, 3, LEAST, MOST};
    private static final long STATE = RecordLabels.STATE;

    private static final Due due = new Due();
    private static final Effect effect = new Effect(due);

    public static void main(String[] args) {
        promise1OrdersAsTold();
        promise1SetsEmpty();
        promise1TablesEmpty();
        promise1NothingBefore();
        promise1ObjectsApart();
        promise2BadKind();
        promise2NoSuchName();
        promise3BadKind();
        promise3BadCode();
        promise4BadKind();
        promise4BadCode();
        promise4Exchanged();
        promise4WithItself();
        promise5BadKind();
        promise5BadCode();
        promise5Start();
        promise5NoStart();
        promise5FailuresComeLast();
        promise5Result();
        promise6ZeroBefore();
        promise6LatestThatWas1();
        promise7Bad();
        promise7WhetherItWas();
        promise7TakenBack();
        promise7StateStarted();
        promise7StateFailed();
        promise8Bad();
        promise8NotStarted();
        promise8Started();
        promise8Failed();
        due.end();
    }

    private static void promise1OrdersAsTold() {
        due.sentence("1: ORDERS as told");
        RecordLabels x = new RecordLabels();
        for (int kind = 0; kind < 3; kind++) {
            for (int code = 0; code < Names.size(kind); code++) {
                due.is("name " + kind + " " + code, x.name(kind, code), Due.nameOf(Names.of(kind)[code]));
            }
        }
    }

    private static void promise1SetsEmpty() {
        due.sentence("1: SETS empty; Terms: SETS 0 to 9, each of one KIND (0 at first), hold .. none at first");
        RecordLabels x = new RecordLabels();
        for (int set = 0; set < 10; set++) {
            due.is("how many in " + set, x.about(set, 0), 0);
            due.is("kind of " + set, x.about(set, 1), 0);
            due.is("first of " + set, x.member(set, 0), RecordLabels.NONE);
        }
    }

    private static void promise1TablesEmpty() {
        due.sentence("1: TABLES empty");
        RecordLabels x = new RecordLabels();
        for (int table = 0; table < 2; table++) {
            due.is("records of " + table, x.count(table), 0);
            due.is("cell of " + table, x.cell(table, 0, 0), -2000000000);
            due.is("back of " + table, x.back(table, 0), RecordLabels.BAD);
            due.is("lay of " + table, x.lay(table, 0, 0, 0), RecordLabels.BAD);
            due.is("sum of " + table, x.sum(table), 0);
        }
        due.is("filter of nodes", x.filter(0, 0, 1, LEAST, MOST), 0);
    }

    private static void promise1NothingBefore() {
        due.sentence("1: a new object has counted, found, started and put together nothing");
        RecordLabels x = new RecordLabels();
        due.is("rules failed", x.count(2), 0);
        due.is("wrong", x.count(3), 0);
        due.is("result", x.result(), 0);
        due.is("part", x.part(0), RecordLabels.NONE);
        due.is("found", x.found(0), RecordLabels.NONE);
        for (int kind = 0; kind < 3; kind++) {
            due.is("started " + kind, x.started(kind), 0);
            due.is("told to fail " + kind, x.fail(kind, false), 0);
        }
    }

    private static void promise1ObjectsApart() {
        due.sentence("1: a new object is as told, whatever others were told");
        Map<String, Long> before = Told.of(new RecordLabels());
        for (World world : World.values()) {
            RecordLabels other = world.made();
            effect.same("beside " + world, Told.of(new RecordLabels()), before);
            due.holds(world + " stays in use", other.count(0) >= 0);
        }
    }

    private static void promise2BadKind() {
        due.sentence("2: BAD: the KIND");
        for (int kind : NO_KINDS) {
            effect.none("code of a in kind " + kind, x -> x.code(kind, 'a'), RecordLabels.BAD);
            effect.none("code of no name in kind " + kind, x -> x.code(kind, 0), RecordLabels.BAD);
        }
    }

    private static void promise2NoSuchName() {
        due.sentence("2: NONE: no such NAME");
        String[][] others = {
            {"to", "a", "z", "", "plac", "places", "Place", "hil", "hills", "il"},
            {"place", "hill", "a", "z", "", "t", "too", "besid", "besides", "TO"},
            {"place", "to", "", "A", "Z", "`", "{", "aa", "az"}
        };
        for (int kind = 0; kind < 3; kind++) {
            int of = kind;
            for (String name : others[kind]) {
                effect.none("code of '" + name + "' in " + kind, x -> x.code(of, Due.nameOf(name)), RecordLabels.NONE);
            }
            long[] noNames = {-1, Long.MIN_VALUE, Long.MAX_VALUE, 1, 25};
            for (long name : noNames) {
                effect.none("code of " + name + " in " + kind, x -> x.code(of, name), RecordLabels.NONE);
            }
        }
    }

    private static void promise3BadKind() {
        due.sentence("3: 0: BAD (the KIND)");
        for (int kind : NO_KINDS) {
            effect.none("name of 0 in kind " + kind, x -> x.name(kind, 0), 0);
        }
    }

    private static void promise3BadCode() {
        due.sentence("3: 0: BAD (the CODE)");
        for (int kind = 0; kind < 3; kind++) {
            int of = kind;
            for (int code : noCodes(kind)) {
                effect.none("name of " + code + " in kind " + kind, x -> x.name(of, code), 0);
            }
            for (World world : World.values()) {
                due.holds(world + ": the first of " + kind, world.made().name(kind, 0) != 0);
                due.holds(world + ": the last of " + kind, world.made().name(kind, Names.size(kind) - 1) != 0);
            }
        }
    }

    private static int[] noCodes(int kind) {
        return new int[] {-1, Names.size(kind), Names.size(kind) + 1, LEAST, MOST};
    }

    private static void promise4BadKind() {
        due.sentence("4: BAD (the KIND)");
        for (int kind : NO_KINDS) {
            effect.none("swap of 0 and 1 in kind " + kind, x -> x.swap(kind, 0, 1), RecordLabels.BAD);
            effect.none("swap of 0 and 0 in kind " + kind, x -> x.swap(kind, 0, 0), RecordLabels.BAD);
        }
    }

    private static void promise4BadCode() {
        due.sentence("4: BAD (a CODE)");
        for (int kind = 0; kind < 3; kind++) {
            int of = kind;
            int last = Names.size(kind) - 1;
            for (int code : noCodes(kind)) {
                effect.none("swap of " + code + " and 0 in " + kind, x -> x.swap(of, code, 0), RecordLabels.BAD);
                effect.none("swap of 0 and " + code + " in " + kind, x -> x.swap(of, 0, code), RecordLabels.BAD);
                effect.none("swap of " + code + " and the last in " + kind, x -> x.swap(of, code, last), RecordLabels.BAD);
                effect.none("swap of " + code + " with itself in " + kind, x -> x.swap(of, code, code), RecordLabels.BAD);
            }
        }
    }

    private static void promise4Exchanged() {
        due.sentence("4: Two CODES are exchanged: 1 (the first and the last)");
        for (int kind = 0; kind < 3; kind++) {
            int of = kind;
            int last = Names.size(kind) - 1;
            String first = Names.of(kind)[0];
            String lastName = Names.of(kind)[last];
            Map<String, Long> changes = Map.of(
                "code(" + kind + ", " + first + ")", (long) last, "code(" + kind + ", " + lastName + ")", 0L,
                "name(" + kind + ", 0)", Due.nameOf(lastName), "name(" + kind + ", " + last + ")", Due.nameOf(first));
            effect.only(World.NEW, "swap of first and last of " + kind, x -> x.swap(of, 0, last), 1, changes);
            effect.only(World.NEW, "swap of last and first of " + kind, x -> x.swap(of, last, 0), 1, changes);
            effect.none(World.NEW, "swap there and back of " + kind, x -> {
                x.swap(of, 0, last);
                return x.swap(of, 0, last);
            }, 1);
        }
    }

    private static void promise4WithItself() {
        due.sentence("4: Two CODES are exchanged: 1 (a CODE with itself: nothing is another one)");
        for (int kind = 0; kind < 3; kind++) {
            int of = kind;
            int last = Names.size(kind) - 1;
            effect.none("swap of 0 with itself in " + kind, x -> x.swap(of, 0, 0), 1);
            effect.none("swap of the last with itself in " + kind, x -> x.swap(of, last, last), 1);
        }
    }

    private static void promise5BadKind() {
        due.sentence("5: BAD (the KIND; nothing is STARTED)");
        for (int kind : NO_KINDS) {
            effect.none("rule 0 of kind " + kind, x -> x.rule(kind, 0, 1), RecordLabels.BAD);
        }
    }

    private static void promise5BadCode() {
        due.sentence("5: BAD (the CODE; ahead of START, NO_START, ZERO, INDEX, OWN)");
        for (int kind = 0; kind < 3; kind++) {
            int of = kind;
            for (int code : noCodes(kind)) {
                effect.none("rule " + code + " of kind " + kind + " of 0", x -> x.rule(of, code, 0), RecordLabels.BAD);
                effect.none("rule " + code + " of kind " + kind + " of -1", x -> x.rule(of, code, -1), RecordLabels.BAD);
            }
        }
    }

    private static Map<String, Long> failedKind(int kind) {
        return Map.of("started(" + kind + ")", 2L, "fail(" + kind + ", true)", STATE);
    }

    private static void promise5Start() {
        due.sentence("5: START (ahead of ZERO, INDEX, OWN; nothing but the start changes)");
        for (int code = 0; code < 7; code++) {
            int of = code;
            effect.only(World.BUSY, "rule " + code + " of arcs of 0", x -> x.rule(1, of, 0), RecordLabels.START, failedKind(1));
            effect.only(World.BUSY, "rule " + code + " of arcs of -1", x -> x.rule(1, of, -1), RecordLabels.START, failedKind(1));
        }
        effect.only(World.FAILED, "rule 0 of nodes", x -> x.rule(0, 0, 5), RecordLabels.START, failedKind(0));
    }

    private static void promise5NoStart() {
        due.sentence("5: NO_START (ahead of ZERO, INDEX, OWN; nothing changes)");
        for (int code = 0; code < 26; code++) {
            int of = code;
            effect.none(World.FAILED, "rule " + code + " of signs", x -> x.rule(2, of, 5), RecordLabels.NO_START);
        }
        for (int code = 0; code < 7; code++) {
            int of = code;
            effect.only(World.BUSY, "rule " + code + " of arcs of 0 after START", x -> {
                x.rule(1, 0, 1);
                return x.rule(1, of, 0);
            }, RecordLabels.NO_START, failedKind(1));
            effect.only(World.BUSY, "rule " + code + " of arcs of -1 after START", x -> {
                x.rule(1, 0, 1);
                return x.rule(1, of, -1);
            }, RecordLabels.NO_START, failedKind(1));
        }
    }

    private static void promise5FailuresComeLast() {
        due.sentence("5: ZERO, INDEX, OWN (counted; result() stays)");
        effect.only(World.FAILED, "over of 0", x -> x.rule(1, 3, 0), RecordLabels.ZERO, Map.of("count(2)", 4L));
        effect.only(World.FAILED, "under of 0", x -> x.rule(1, 4, 0), RecordLabels.ZERO, Map.of("count(2)", 4L));
        effect.only(World.FAILED, "within of 3", x -> x.rule(1, 5, 3), RecordLabels.INDEX, Map.of("count(2)", 4L));
        effect.only(World.FAILED, "beside of -1", x -> x.rule(1, 6, -1), RecordLabels.OWN, Map.of("count(2)", 4L));
    }

    private static void promise5Result() {
        due.sentence("5: 1, and result() has what comes");
        Map<String, Long> changes = new HashMap<>();
        changes.put("result()", 55L);
        effect.only(World.ARCS_FULL, "place of 55", x -> x.rule(0, 0, 55), 1, changes);
        changes.put("started(0)", 1L);
        changes.put("fail(0, true)", STATE);
        effect.only(World.NODES_FULL, "place of 55, the first", x -> x.rule(0, 0, 55), 1, changes);
    }

    private static void promise6ZeroBefore() {
        due.sentence("6: 0 before");
        effect.none(World.NEW, "result", RecordLabels::result, 0);
        RecordLabels x = new RecordLabels();
        x.rule(3, 0, 9);
        x.rule(0, 5, 9);
        x.rule(1, 3, 0);
        x.rule(1, 5, 9);
        x.rule(1, 6, -9);
        x.fail(2, true);
        x.rule(2, 9, 9);
        x.rule(2, 9, 9);
        x.record(0, 0, 9, 0, 0);
        x.sum(0);
        due.is("result after rules that were not 1, and a sum", x.result(), 0);
    }

    private static void promise6LatestThatWas1() {
        due.sentence("6: What came of the latest rule() that was 1");
        int[][] notDone = {{3, 0, 9}, {0, 5, 9}, {0, -1, 9}, {1, 3, 0}, {1, 4, 0}, {1, 5, 3}, {1, 6, -1}, {2, 0, 9}, {2, 0, 9}};
        RecordLabels x = new RecordLabels();
        x.fail(2, true);
        x.rule(0, 0, 33);
        for (int[] rule : notDone) {
            due.holds("rule " + rule[0] + " " + rule[1] + " is not 1", x.rule(rule[0], rule[1], rule[2]) != 1);
            due.is("result after it", x.result(), 33);
        }
        x.rule(1, 0, 33);
        due.is("result of the latest", x.result(), 34);
        x.rule(0, 0, 0);
        due.is("result 0 of the latest", x.result(), 0);
    }

    private static void promise7Bad() {
        due.sentence("7: BAD (the KIND)");
        for (int kind : NO_KINDS) {
            effect.none("fail of kind " + kind, x -> x.fail(kind, true), RecordLabels.BAD);
            effect.none("fail not of kind " + kind, x -> x.fail(kind, false), RecordLabels.BAD);
        }
    }

    private static void promise7WhetherItWas() {
        due.sentence("7: whether it was (1, 0)");
        for (int kind = 0; kind < 3; kind++) {
            int of = kind;
            Map<String, Long> told = Map.of("fail(" + kind + ", true)", 1L);
            effect.none(World.NEW, "not, of " + kind, x -> x.fail(of, false), 0);
            effect.only(World.NEW, "told, of " + kind, x -> x.fail(of, true), 0, told);
            effect.only(World.NEW, "told again, of " + kind, x -> {
                x.fail(of, true);
                return x.fail(of, true);
            }, 1, told);
            effect.none(World.NEW, "told and not, of " + kind, x -> {
                x.fail(of, true);
                return x.fail(of, false);
            }, 1);
            effect.none(World.NEW, "not after not, of " + kind, x -> {
                x.fail(of, true);
                x.fail(of, false);
                return x.fail(of, false);
            }, 0);
        }
    }

    private static void promise7TakenBack() {
        due.sentence("7: A KIND is told to FAIL when it is STARTED, or not");
        for (int kind = 0; kind < 3; kind++) {
            RecordLabels x = new RecordLabels();
            x.fail(kind, true);
            x.fail(kind, false);
            due.is("rule of " + kind + " that is not told any more", x.rule(kind, 0, 1), 1);
            due.is("started", x.started(kind), 1);
            RecordLabels y = new RecordLabels();
            y.fail(kind, false);
            y.fail(kind, true);
            due.is("rule of " + kind + " that is told at last", y.rule(kind, 0, 1), RecordLabels.START);
        }
    }

    private static void promise7StateStarted() {
        due.sentence("7: STATE: it was STARTED");
        for (int kind = 0; kind < 3; kind++) {
            int of = kind;
            effect.none(World.ARCS_FULL, "fail of " + kind, x -> x.fail(of, true), STATE);
            effect.none(World.ARCS_FULL, "fail not of " + kind, x -> x.fail(of, false), STATE);
            RecordLabels x = World.ARCS_FULL.made();
            x.fail(kind, true);
            due.is("rule of " + kind + " after that", x.rule(kind, 0, 1), 1);
        }
    }

    private static void promise7StateFailed() {
        due.sentence("7: STATE: it .. has FAILED");
        effect.none(World.FAILED, "fail of signs", x -> x.fail(2, true), STATE);
        effect.none(World.FAILED, "fail not of signs", x -> x.fail(2, false), STATE);
        for (int kind = 0; kind < 3; kind++) {
            RecordLabels x = new RecordLabels();
            x.fail(kind, true);
            x.rule(kind, 0, 1);
            due.is("fail not of " + kind, x.fail(kind, false), STATE);
            due.is("rule of " + kind + " after that", x.rule(kind, 0, 1), RecordLabels.NO_START);
            due.is("started " + kind, x.started(kind), 2);
        }
    }

    private static void promise8Bad() {
        due.sentence("8: BAD (the KIND)");
        for (int kind : NO_KINDS) {
            effect.none("started of kind " + kind, x -> x.started(kind), RecordLabels.BAD);
        }
    }

    private static void promise8NotStarted() {
        due.sentence("8: 0 not STARTED");
        effect.none(World.BUSY, "signs, which are in sets and records", x -> x.started(2), 0);
        effect.none(World.BUSY, "arcs, told to fail", x -> x.started(1), 0);
        effect.none(World.NODES_FULL, "nodes, recorded and filtered", x -> x.started(0), 0);
    }

    private static void promise8Started() {
        due.sentence("8: 1 STARTED");
        effect.none(World.BUSY, "nodes", x -> x.started(0), 1);
        effect.none(World.FAILED, "arcs, whose first rule failed", x -> x.started(1), 1);
        effect.none(World.ARCS_FULL, "signs", x -> x.started(2), 1);
    }

    private static void promise8Failed() {
        due.sentence("8: 2 it has FAILED");
        effect.none(World.FAILED, "signs", x -> x.started(2), 2);
        effect.only(World.BUSY, "arcs", x -> {
            x.rule(1, 0, 1);
            return x.started(1);
        }, 2, failedKind(1));
    }
}
