import java.util.LinkedHashMap;
import java.util.Map;

/** The edges of promises 9 to 13, each sentence with a test of its own. */
public final class SetsEdgesTest {
    private static final int LEAST = Integer.MIN_VALUE, MOST = Integer.MAX_VALUE;
    private static final int[] NO_SETS = {-1, 10, LEAST, MOST};
    private static final int[] NO_KINDS = {-1, 3, LEAST, MOST};
    private static final int BOTH = 0, COMMON = 1, FIRST_ALONE = 2, OTHERS = 3;

    private static final Due due = new Due();
    private static final Effect effect = new Effect(due);

    public static void main(String[] args) {
        sets0To9();
        promise9BadSet();
        promise9BadKind();
        promise9HowMany();
        promise9EmptyOfAKind();
        promise10BadSet();
        promise10BadCode();
        promise10WhetherItWas();
        promise10NothingElse();
        promise11BadOp();
        promise11BadSet();
        promise11TheSecondMustBeOne();
        promise11State();
        promise11TheSecondDoesNotCount();
        promise11EmptyAndFull();
        promise11OfTheFirstOnesKind();
        promise11IntoOneOfThem();
        promise12BadSet();
        promise12None();
        promise12ByCodes();
        promise13BadSet();
        promise13BadWhat();
        promise13EmptyAndFull();
        due.end();
    }

    private static void members(String what, RecordLabels x, int set, int... codes) {
        due.is(what + ", how many", x.about(set, 0), codes.length);
        for (int i = 0; i < codes.length; i++) {
            due.is(what + ", member " + i, x.member(set, i), codes[i]);
        }
        due.is(what + ", none behind", x.member(set, codes.length), RecordLabels.NONE);
    }

    private static void sets0To9() {
        due.sentence("Terms: SETS 0 to 9, each of one KIND");
        for (int set = 0; set < 10; set++) {
            RecordLabels x = new RecordLabels();
            due.is("clear " + set, x.clear(set, 2), 0);
            due.is("put into " + set, x.put(set, 25, true), 0);
            for (int other = 0; other < 10; other++) {
                due.is("how many has " + other + ", put into " + set, x.about(other, 0), other == set ? 1 : 0);
                due.is("kind of " + other + ", cleared " + set, x.about(other, 1), other == set ? 2 : 0);
            }
        }
    }

    private static void promise9BadSet() {
        due.sentence("9: BAD (the SET)");
        for (int set : NO_SETS) {
            effect.none("clear of set " + set, x -> x.clear(set, 1), RecordLabels.BAD);
            effect.none("clear of set " + set + " of no kind", x -> x.clear(set, 3), RecordLabels.BAD);
        }
    }

    private static void promise9BadKind() {
        due.sentence("9: BAD (the KIND)");
        for (int kind : NO_KINDS) {
            for (int set = 0; set < 10; set++) {
                int of = set;
                effect.none("clear of set " + set + " of kind " + kind, x -> x.clear(of, kind), RecordLabels.BAD);
            }
        }
    }

    private static void promise9HowMany() {
        due.sentence("9: how many it had (none, one, all)");
        for (int kind = 0; kind < 3; kind++) {
            RecordLabels x = new RecordLabels();
            due.is("none", x.clear(0, kind), 0);
            due.is("none again", x.clear(0, kind), 0);
            x.put(0, Names.size(kind) - 1, true);
            due.is("one", x.clear(0, kind), 1);
            x.join(OTHERS, 0, 0, 0);
            due.is("all", x.clear(0, kind), Names.size(kind));
            due.is("none after all", x.clear(0, kind), 0);
        }
    }

    private static void promise9EmptyOfAKind() {
        due.sentence("9: A SET is of a KIND, and empty then");
        for (int kind = 0; kind < 3; kind++) {
            int of = kind;
            Map<String, Long> changes = Map.of("about(4, 1)", (long) kind);
            effect.only(World.BUSY, "clear of an empty set", x -> x.clear(4, of), 0, changes);
            for (int before = 0; before < 3; before++) {
                RecordLabels x = new RecordLabels();
                World.fillWithAll(x, 9, before);
                x.clear(9, kind);
                due.is("kind " + before + " before, now", x.about(9, 1), kind);
                members("kind " + before + " before, now " + kind, x, 9);
                for (int code = 0; code < Names.size(kind); code++) {
                    due.is("not in it: " + code, x.put(9, code, true), 0);
                }
            }
        }
    }

    private static void promise10BadSet() {
        due.sentence("10: BAD (the SET)");
        for (int set : NO_SETS) {
            effect.none("put into " + set, x -> x.put(set, 0, true), RecordLabels.BAD);
            effect.none("put out of " + set, x -> x.put(set, 0, false), RecordLabels.BAD);
        }
    }

    private static void promise10BadCode() {
        due.sentence("10: BAD (the CODE: one that the SET's KIND has not)");
        for (int set = 0; set < 10; set++) {
            int of = set;
            int[] noCodes = {-1, 26, 32, LEAST, MOST};
            for (int code : noCodes) {
                effect.none("put " + code + " into " + set, x -> x.put(of, code, true), RecordLabels.BAD);
                effect.none("put " + code + " out of " + set, x -> x.put(of, code, false), RecordLabels.BAD);
            }
            for (World world : World.values()) {
                int size = Names.size((int) effect.before(world, "about(" + set + ", 1)"));
                effect.none(world, "put behind the last into " + set, x -> x.put(of, size, true), RecordLabels.BAD);
                effect.none(world, "put behind the last out of " + set, x -> x.put(of, size, false), RecordLabels.BAD);
            }
        }
    }

    private static void promise10WhetherItWas() {
        due.sentence("10: whether it was (1, 0)");
        for (int kind = 0; kind < 3; kind++) {
            for (int code = 0; code < Names.size(kind); code++) {
                RecordLabels x = new RecordLabels();
                x.clear(3, kind);
                String what = "code " + code + " of kind " + kind;
                due.is(what + " out, was not", x.put(3, code, false), 0);
                due.is(what + " in, was not", x.put(3, code, true), 0);
                due.is(what + " in, was", x.put(3, code, true), 1);
                members(what, x, 3, code);
                due.is(what + " out, was", x.put(3, code, false), 1);
                due.is(what + " out, was not any more", x.put(3, code, false), 0);
                members(what + " out", x, 3);
            }
        }
    }

    private static void promise10NothingElse() {
        due.sentence("10: A CONSTANT .. is in a SET, or not (what was so stays so)");
        effect.none(World.BUSY, "put in what is in", x -> x.put(2, 13, true), 1);
        effect.none(World.BUSY, "put out what is not in", x -> x.put(2, 12, false), 0);
        effect.none(World.FAILED, "put in into all", x -> x.put(7, 25, true), 1);
        effect.none(World.NEW, "put out of none", x -> x.put(0, 0, false), 0);
        Map<String, Long> changes = new LinkedHashMap<>();
        changes.put("about(4, 0)", 1L);
        changes.put("member(4, 0)", 25L);
        changes.put("member(4, 1)", (long) RecordLabels.NONE);
        effect.only(World.BUSY, "put in into none", x -> x.put(4, 25, true), 0, changes);
    }

    private static void promise11BadOp() {
        due.sentence("11: BAD (op)");
        int[] noOps = {-1, 4, LEAST, MOST};
        for (int op : noOps) {
            effect.none("join " + op + " of one kind", x -> x.join(op, 5, 0, 6), RecordLabels.BAD);
            effect.none("join " + op + " into the first", x -> x.join(op, 3, 1, 3), RecordLabels.BAD);
            effect.none(World.BUSY, "join " + op + " of two kinds", x -> x.join(op, 0, 1, 2), RecordLabels.BAD);
        }
    }

    private static void promise11BadSet() {
        due.sentence("11: BAD (the first, the second, the SET that becomes; ahead of STATE)");
        for (int op = BOTH; op <= OTHERS; op++) {
            int of = op;
            for (int set : NO_SETS) {
                effect.none("join " + op + " of first " + set, x -> x.join(of, set, 0, 2), RecordLabels.BAD);
                effect.none("join " + op + " of second " + set, x -> x.join(of, 0, set, 2), RecordLabels.BAD);
                effect.none("join " + op + " to " + set, x -> x.join(of, 0, 5, set), RecordLabels.BAD);
                effect.none("join " + op + " of two kinds to " + set, x -> x.join(of, 0, 1, set), RecordLabels.BAD);
            }
        }
    }

    private static void promise11TheSecondMustBeOne() {
        due.sentence("11: 3; the second does not count, but must be one");
        for (int set : NO_SETS) {
            effect.none("join 3 with second " + set, x -> x.join(OTHERS, 5, set, 5), RecordLabels.BAD);
        }
        for (int second = 0; second < 10; second++) {
            RecordLabels x = World.BUSY.made();
            due.is("join 3 with second " + second, x.join(OTHERS, 1, second, 8), 5);
        }
    }

    private static void promise11State() {
        due.sentence("11: STATE: of two KINDS (0 to 2)");
        int[][] ofTwo = {{0, 1}, {1, 0}, {0, 2}, {2, 0}, {1, 2}, {2, 1}, {5, 4}, {4, 3}, {6, 4}, {4, 6}};
        for (int op = BOTH; op <= FIRST_ALONE; op++) {
            int of = op;
            for (int[] two : ofTwo) {
                for (int to = 0; to < 10; to++) {
                    int target = to;
                    effect.none(World.BUSY, "join " + op + " of " + two[0] + " and " + two[1] + " to " + to,
                        x -> x.join(of, two[0], two[1], target), RecordLabels.STATE);
                }
            }
        }
    }

    private static void promise11TheSecondDoesNotCount() {
        due.sentence("11: what of its KIND is not in the first (3; the second does not count)");
        for (int second = 0; second < 10; second++) {
            RecordLabels x = World.BUSY.made();
            due.is("not in 2, second " + second, x.join(OTHERS, 2, second, 7), 23);
            due.is("its kind", x.about(7, 1), 2);
            due.is("0 is not in it", x.put(7, 0, false), 0);
            due.is("1 is in it", x.put(7, 1, false), 1);
            due.is("24 is in it", x.put(7, 24, false), 1);
            due.is("25 is not in it", x.put(7, 25, false), 0);
        }
    }

    private static void promise11EmptyAndFull() {
        due.sentence("11: how many it has (none, all)");
        for (int kind = 0; kind < 3; kind++) {
            int all = Names.size(kind);
            RecordLabels x = new RecordLabels();
            x.clear(0, kind);
            World.fillWithAll(x, 1, kind);
            int[][] joins = {
                {BOTH, 0, 0, 0}, {BOTH, 0, 1, all}, {BOTH, 1, 0, all}, {BOTH, 1, 1, all},
                {COMMON, 0, 0, 0}, {COMMON, 0, 1, 0}, {COMMON, 1, 0, 0}, {COMMON, 1, 1, all},
                {FIRST_ALONE, 0, 0, 0}, {FIRST_ALONE, 0, 1, 0}, {FIRST_ALONE, 1, 0, all}, {FIRST_ALONE, 1, 1, 0},
                {OTHERS, 0, 0, all}, {OTHERS, 0, 1, all}, {OTHERS, 1, 0, 0}, {OTHERS, 1, 1, 0}
            };
            for (int[] join : joins) {
                String what = "join " + join[0] + " of " + join[1] + " and " + join[2] + " of kind " + kind;
                due.is(what, x.join(join[0], join[1], join[2], 2), join[3]);
                due.is(what + ", how many", x.about(2, 0), join[3]);
                due.is(what + ", the last", x.member(2, all - 1), join[3] == all ? all - 1 : RecordLabels.NONE);
                due.is(what + ", none behind", x.member(2, all), RecordLabels.NONE);
            }
        }
    }

    private static void promise11OfTheFirstOnesKind() {
        due.sentence("11: The SET is of the first one's KIND then");
        for (int op = BOTH; op <= OTHERS; op++) {
            for (int kind = 0; kind < 3; kind++) {
                for (int before = 0; before < 3; before++) {
                    RecordLabels x = new RecordLabels();
                    World.fillWithAll(x, 9, before);
                    x.clear(0, kind);
                    x.clear(1, op == OTHERS ? (kind + 1) % 3 : kind);
                    x.put(0, 4, true);
                    int[] sizes = {1, 0, 1, Names.size(kind) - 1};
                    due.is("join " + op + " of kind " + kind + " to kind " + before, x.join(op, 0, 1, 9), sizes[op]);
                    due.is("its kind", x.about(9, 1), kind);
                    due.is("how many", x.about(9, 0), sizes[op]);
                    members("the first", x, 0, 4);
                    due.is("the second's kind", x.about(1, 1), op == OTHERS ? (kind + 1) % 3 : kind);
                }
            }
        }
    }

    private static void promise11IntoOneOfThem() {
        due.sentence("11: A SET becomes .. (the first or the second itself)");
        int[][] becomes = {{0, 1, 2, 3}, {1, 2}, {0}, {3, 4, 5, 6}};
        for (int op = BOTH; op <= OTHERS; op++) {
            for (int to = 0; to < 2; to++) {
                RecordLabels x = new RecordLabels();
                World.fill(x, 0, 1, 0, 1, 2);
                World.fill(x, 1, 1, 1, 2, 3);
                due.is("join " + op + " to " + to, x.join(op, 0, 1, to), becomes[op].length);
                members("join " + op + " to " + to, x, to, becomes[op]);
                members("join " + op + " to " + to + ", the other", x, 1 - to, to == 0 ? new int[] {1, 2, 3} : new int[] {0, 1, 2});
            }
            RecordLabels y = new RecordLabels();
            World.fill(y, 0, 1, 0, 6);
            int[][] alone = {{0, 6}, {0, 6}, {}, {1, 2, 3, 4, 5}};
            due.is("join " + op + " with itself to itself", y.join(op, 0, 0, 0), alone[op].length);
            members("join " + op + " with itself to itself", y, 0, alone[op]);
        }
    }

    private static void promise12BadSet() {
        due.sentence("12: BAD: the SET");
        for (int set : NO_SETS) {
            effect.none("member 0 of " + set, x -> x.member(set, 0), RecordLabels.BAD);
            effect.none("member -1 of " + set, x -> x.member(set, -1), RecordLabels.BAD);
        }
    }

    private static void promise12None() {
        due.sentence("12: NONE (an i that is below 0 or not below how many there are)");
        for (int set = 0; set < 10; set++) {
            int of = set;
            int[] never = {-1, 26, LEAST, MOST};
            for (int i : never) {
                effect.none("member " + i + " of " + set, x -> x.member(of, i), RecordLabels.NONE);
            }
            for (World world : World.values()) {
                int size = (int) effect.before(world, "about(" + set + ", 0)");
                effect.none(world, "member behind the last of " + set, x -> x.member(of, size), RecordLabels.NONE);
                if (size > 0) {
                    due.holds(world + ": the last of " + set, world.made().member(set, size - 1) >= 0);
                }
            }
        }
    }

    private static void promise12ByCodes() {
        due.sentence("12: The i-th CODE of a SET, by CODES (of now)");
        RecordLabels x = new RecordLabels();
        World.fill(x, 0, 2, 25, 0, 12);
        members("put in another order", x, 0, 0, 12, 25);
        x.swap(2, 0, 24);
        members("the first is the second now", x, 0, 12, 24, 25);
        x.swap(2, 25, 1);
        members("the last is the first now", x, 0, 1, 12, 24);
        x.swap(2, 1, 24);
        members("two of them exchanged", x, 0, 1, 12, 24);
        World.fillWithAll(x, 1, 2);
        for (int i = 0; i < 26; i++) {
            due.is("of all signs " + i, x.member(1, i), i);
        }
    }

    private static void promise13BadSet() {
        due.sentence("13: BAD (the SET)");
        for (int set : NO_SETS) {
            effect.none("how many in " + set, x -> x.about(set, 0), RecordLabels.BAD);
            effect.none("kind of " + set, x -> x.about(set, 1), RecordLabels.BAD);
            effect.none("2 of " + set, x -> x.about(set, 2), RecordLabels.BAD);
        }
    }

    private static void promise13BadWhat() {
        due.sentence("13: BAD (what)");
        int[] noWhats = {-1, 2, LEAST, MOST};
        for (int what : noWhats) {
            for (int set = 0; set < 10; set++) {
                int of = set;
                effect.none("about " + set + " " + what, x -> x.about(of, what), RecordLabels.BAD);
            }
        }
    }

    private static void promise13EmptyAndFull() {
        due.sentence("13: How many CONSTANTS a SET has (what = 0), its KIND (1)");
        for (int kind = 0; kind < 3; kind++) {
            RecordLabels x = new RecordLabels();
            x.clear(9, kind);
            due.is("none of kind " + kind, x.about(9, 0), 0);
            due.is("kind " + kind + " of none", x.about(9, 1), kind);
            for (int code = 0; code < Names.size(kind); code++) {
                x.put(9, code, true);
                due.is("with " + code + " of kind " + kind, x.about(9, 0), code + 1);
            }
            due.is("kind " + kind + " of all", x.about(9, 1), kind);
        }
    }
}
