import java.util.Map;

/** The edges that 'Terms' names of names, orders, rules and starts, each sentence with a test of its own. */
public final class RulesEdgesTest {
    private static final long MOST = Long.MAX_VALUE, LEAST = Long.MIN_VALUE;
    /** Numbers whose low half alone would be another number: 0, 1, 2, -1. */
    private static final long LOW_0 = 1L << 32, LOW_1 = LOW_0 + 1, LOW_2 = LOW_0 + 2, LOW_MINUS_1 = LOW_0 - 1;

    private static final Due due = new Due();
    private static final Effect effect = new Effect(due);

    public static void main(String[] args) {
        kindsHaveTheirConstants();
        namesHaveTheirFirstLetterLowest();
        namesHave0sAbove();
        exchangedCodesAreAllThatChanges();
        rulesGoWithTheirConstants();
        rulesOfNodesWrap();
        rulesOfArcsWrap();
        rulesOfSignsTakeAllBits();
        divisionsAreCut();
        whatIsLeft();
        zero();
        index();
        own();
        otherRulesNeverFail();
        theFirstRuleStarts();
        aRuleThatFailsStarts();
        toldToFail();
        laterRulesHaveNoStart();
        codesThatAreToldAreThoseOfNow();
        codesThatAreAnsweredAreThoseOfNow();
        calls512();
        due.end();
    }

    private static void kindsHaveTheirConstants() {
        due.sentence("Terms: 0 NODES: place road ..; 1 ARCS: to from ..; 2 SIGNS: a b c .. z; CODES are 0, 1, ..");
        for (int kind = 0; kind < 3; kind++) {
            RecordLabels x = new RecordLabels();
            String[] names = Names.of(kind);
            for (int i = 0; i < names.length; i++) {
                due.is("code of " + names[i], x.code(kind, Due.nameOf(names[i])), i);
                due.is("name of " + i + " of kind " + kind, x.name(kind, i), Due.nameOf(names[i]));
            }
            due.is("no code behind the last of kind " + kind, x.name(kind, names.length), 0);
            due.is("no code ahead of the first of kind " + kind, x.name(kind, -1), 0);
        }
    }

    private static void namesHaveTheirFirstLetterLowest() {
        due.sentence("Terms: A NAME is told as a long: its first letter lowest, 8 bits each");
        RecordLabels x = new RecordLabels();
        for (int kind = 0; kind < 2; kind++) {
            for (String name : Names.of(kind)) {
                String turned = new StringBuilder(name).reverse().toString();
                due.is("code of " + turned, x.code(kind, Due.nameOf(turned)), RecordLabels.NONE);
                due.is("code of " + name + " behind a 0", x.code(kind, Due.nameOf(name) << 8), RecordLabels.NONE);
                due.is("lowest letter of " + name, x.name(kind, Names.code(x, name)) & 255, name.charAt(0));
            }
        }
        due.is("code of to, written out", x.code(1, 't' + 256 * 'o'), 0);
        due.is("name of to, written out", x.name(1, 0), 't' + 256 * 'o');
    }

    private static void namesHave0sAbove() {
        due.sentence("Terms: A NAME is told as a long: .. 0s above");
        for (int kind = 0; kind < 3; kind++) {
            for (String name : Names.of(kind)) {
                RecordLabels x = new RecordLabels();
                for (int bit = 8 * name.length(); bit < 64; bit++) {
                    due.is(name + " with bit " + bit, x.code(kind, Due.nameOf(name) | 1L << bit), RecordLabels.NONE);
                }
            }
        }
    }

    private static void exchangedCodesAreAllThatChanges() {
        due.sentence("Terms: CONSTANTS have other CODES then, and nothing else is another one (SETS, CELLS hold CONSTANTS)");
        for (World world : World.values()) {
            for (int kind = 0; kind < 3; kind++) {
                for (int b = 0; b < Names.size(kind); b++) {
                    RecordLabels x = world.made();
                    int a = Names.size(kind) / 2;
                    due.is(world + ": swap " + a + " and " + b + " of kind " + kind, x.swap(kind, a, b), 1);
                    effect.same(world + ": swapped " + a + " and " + b, Told.byNames(x), Told.byNames(world.made()));
                }
            }
        }
    }

    private static void rulesGoWithTheirConstants() {
        due.sentence("Terms: CONSTANTS have other CODES then, and nothing else is another one (rules)");
        for (int kind = 0; kind < 3; kind++) {
            for (String name : Names.of(kind)) {
                RecordLabels x = new RecordLabels();
                RecordLabels y = new RecordLabels();
                x.rule(kind, Names.code(x, name), 2);
                int last = Names.size(kind) - 1;
                y.swap(kind, Names.code(y, name), last);
                due.is("code of " + name, Names.code(y, name), last);
                due.is("rule of " + name, y.rule(kind, last, 2), 1);
                due.is("what comes of " + name, y.result(), x.result());
            }
        }
    }

    /** Asks a rule of a new object, so that each case stands for itself. */
    private static void comes(String name, long v, long want) {
        RecordLabels x = new RecordLabels();
        int kind = kindOf(x, name);
        due.is(name + " of " + v, x.rule(kind, Names.code(x, name), v), 1);
        due.is(name + " of " + v + ", what comes", x.result(), want);
        due.is(name + " of " + v + ", failures", x.count(2), 0);
    }

    private static int kindOf(RecordLabels x, String name) {
        return name.length() == 1 ? 2 : x.code(0, Due.nameOf(name)) >= 0 ? 0 : 1;
    }

    private static void rulesOfNodesWrap() {
        due.sentence("Terms: RULES (v, what comes: longs, which wrap): place v; road 2 v; town v + 10; river - v; hill v v");
        long[] all = {LEAST, LEAST + 1, -LOW_0, -1, 0, 1, LOW_0, MOST - 1, MOST};
        for (long v : all) {
            comes("place", v, v);
        }
        comes("road", 0, 0);
        comes("road", MOST / 2, MOST - 1);
        comes("road", MOST / 2 + 1, LEAST);
        comes("road", MOST, -2);
        comes("road", LEAST / 2, LEAST);
        comes("road", LEAST / 2 - 1, MOST - 1);
        comes("road", LEAST, 0);
        comes("town", -10, 0);
        comes("town", MOST - 10, MOST);
        comes("town", MOST - 9, LEAST);
        comes("town", MOST, LEAST + 9);
        comes("town", LEAST, LEAST + 10);
        comes("river", 0, 0);
        comes("river", MOST, LEAST + 1);
        comes("river", LEAST + 1, MOST);
        comes("river", LEAST, LEAST);
        long root = 3037000499L;
        comes("hill", 0, 0);
        comes("hill", -1, 1);
        comes("hill", root, 9223372030926249001L);
        comes("hill", -root, 9223372030926249001L);
        comes("hill", root + 1, -9223372036709301616L);
        comes("hill", LOW_0, 0);
        comes("hill", LOW_1, 2 * LOW_0 + 1);
        comes("hill", MOST, 1);
        comes("hill", LEAST, 0);
    }

    private static void rulesOfArcsWrap() {
        due.sentence("Terms: RULES (v, what comes: longs, which wrap): to v + 1; from v - 1; beside v");
        comes("to", -1, 0);
        comes("to", LOW_MINUS_1, LOW_0);
        comes("to", Integer.MAX_VALUE, 1L << 31);
        comes("to", MOST - 1, MOST);
        comes("to", MOST, LEAST);
        comes("to", LEAST, LEAST + 1);
        comes("from", 0, -1);
        comes("from", LOW_0, LOW_MINUS_1);
        comes("from", Integer.MIN_VALUE, -(1L << 31) - 1);
        comes("from", LEAST + 1, LEAST);
        comes("from", LEAST, MOST);
        comes("from", MOST, MOST - 1);
        comes("beside", MOST, MOST);
    }

    private static void rulesOfSignsTakeAllBits() {
        due.sentence("Terms: a SIGN v xor its number in the alphabet (a 0)");
        String[] signs = Names.of(2);
        for (int i = 0; i < signs.length; i++) {
            comes(signs[i], 0, i);
            comes(signs[i], i, 0);
            comes(signs[i], -1, -1 - i);
            comes(signs[i], LEAST, LEAST + i);
            comes(signs[i], MOST, MOST - i);
            comes(signs[i], LOW_0, LOW_0 + i);
        }
    }

    private static void divisionsAreCut() {
        due.sentence("Terms: near v / 2, cut; over 100 / v, cut");
        long[][] halves = {
            {0, 0}, {1, 0}, {2, 1}, {3, 1}, {-1, 0}, {-2, -1}, {-3, -1}, {LOW_1, LOW_0 / 2},
            {MOST, MOST / 2}, {LEAST, -(1L << 62)}, {LEAST + 1, 1 - (1L << 62)}
        };
        for (long[] half : halves) {
            comes("near", half[0], half[1]);
        }
        long[][] parts = {
            {1, 100}, {2, 50}, {3, 33}, {7, 14}, {50, 2}, {51, 1}, {99, 1}, {100, 1}, {101, 0},
            {-1, -100}, {-3, -33}, {-7, -14}, {-51, -1}, {-100, -1}, {-101, 0},
            {LOW_0, 0}, {LOW_1, 0}, {LOW_MINUS_1, 0}, {-LOW_0, 0}, {MOST, 0}, {LEAST, 0}
        };
        for (long[] part : parts) {
            comes("over", part[0], part[1]);
        }
    }

    private static void whatIsLeft() {
        due.sentence("Terms: under what is left of 100 / v");
        long[][] left = {
            {1, 0}, {2, 0}, {3, 1}, {7, 2}, {50, 0}, {51, 49}, {99, 1}, {100, 0}, {101, 100},
            {-1, 0}, {-3, 1}, {-7, 2}, {-51, 49}, {-100, 0}, {-101, 100},
            {LOW_0, 100}, {LOW_1, 100}, {LOW_MINUS_1, 100}, {-LOW_0, 100}, {MOST, 100}, {LEAST, 100}
        };
        for (long[] one : left) {
            comes("under", one[0], one[1]);
        }
    }

    /** A rule that fails starts its kind and is counted; nothing else changes. */
    private static void fails(String name, long v, int why) {
        effect.only(World.NEW, name + " of " + v, x -> x.rule(1, Names.code(x, name), v), why,
            Map.of("started(1)", 1L, "fail(1, true)", (long) RecordLabels.STATE, "count(2)", 1L));
        effect.only(World.ARCS_FULL, name + " of " + v, x -> x.rule(1, Names.code(x, name), v), why, Map.of("count(2)", 1L));
        effect.only(World.FAILED, name + " of " + v, x -> x.rule(1, Names.code(x, name), v), why, Map.of("count(2)", 4L));
    }

    private static void zero() {
        due.sentence("Terms: FAILURES: ZERO (over, under of 0)");
        fails("over", 0, RecordLabels.ZERO);
        fails("under", 0, RecordLabels.ZERO);
        comes("over", 1, 100);
        comes("over", -1, -100);
        comes("under", 1, 0);
        comes("under", -1, 0);
    }

    private static void index() {
        due.sentence("Terms: within item v of 5, 7, 9; FAILURES: INDEX (within)");
        comes("within", 0, 5);
        comes("within", 1, 7);
        comes("within", 2, 9);
        long[] none = {-1, 3, LOW_0, LOW_1, LOW_2, -LOW_0, MOST, LEAST, Integer.MAX_VALUE, Integer.MIN_VALUE};
        for (long v : none) {
            fails("within", v, RecordLabels.INDEX);
        }
    }

    private static void own() {
        due.sentence("Terms: beside v, if it is not below 0; FAILURES: OWN (beside)");
        long[] right = {0, 1, 1L << 31, LOW_MINUS_1, LOW_0, MOST};
        for (long v : right) {
            comes("beside", v, v);
        }
        long[] wrong = {-1, -2, -LOW_0, Integer.MIN_VALUE, LEAST + 1, LEAST};
        for (long v : wrong) {
            fails("beside", v, RecordLabels.OWN);
        }
    }

    private static void otherRulesNeverFail() {
        due.sentence("Terms: FAILURES: ZERO (over, under of 0), INDEX (within), OWN (beside), and no other RULE fails");
        long[] edges = {LEAST, -LOW_0, -1, 0, 1, 3, LOW_0, MOST};
        for (int kind = 0; kind < 3; kind++) {
            for (int code = 0; code < (kind == 1 ? 3 : Names.size(kind)); code++) {
                RecordLabels x = new RecordLabels();
                for (long v : edges) {
                    due.is("rule " + kind + " " + code + " of " + v, x.rule(kind, code, v), 1);
                }
                due.is("failures of " + kind + " " + code, x.count(2), 0);
            }
        }
    }

    private static void theFirstRuleStarts() {
        due.sentence("Terms: A KIND is STARTED by the first RULE of it that is asked");
        for (int kind = 0; kind < 3; kind++) {
            for (int code = 0; code < Names.size(kind); code++) {
                RecordLabels x = new RecordLabels();
                due.is("before " + kind + " " + code, x.started(kind), 0);
                due.is("rule " + kind + " " + code, x.rule(kind, code, 1), 1);
                for (int other = 0; other < 3; other++) {
                    due.is("after " + kind + " " + code + ", kind " + other, x.started(other), other == kind ? 1 : 0);
                }
            }
        }
    }

    private static void aRuleThatFailsStarts() {
        due.sentence("Terms: what is refused, fails, or is wrong changes nothing (but STARTS, and the count of failures)");
        long[][] failing = {{3, 0}, {4, 0}, {5, -1}, {5, 3}, {6, -1}};
        for (long[] rule : failing) {
            RecordLabels x = new RecordLabels();
            x.rule(1, (int) rule[0], rule[1]);
            due.is("started by " + rule[0] + " of " + rule[1], x.started(1), 1);
            due.is("told too late", x.fail(1, true), RecordLabels.STATE);
            due.is("a later rule", x.rule(1, 0, 1), 1);
            due.is("the failure is counted", x.count(2), 1);
        }
    }

    private static void toldToFail() {
        due.sentence("Terms: If it was told to FAIL, it FAILS then (START)");
        for (int kind = 0; kind < 3; kind++) {
            for (int code = 0; code < Names.size(kind); code++) {
                RecordLabels x = new RecordLabels();
                x.fail(kind, true);
                due.is("told is not yet failed", x.started(kind), 0);
                due.is("rule " + kind + " " + code, x.rule(kind, code, 1), RecordLabels.START);
                due.is("then kind " + kind, x.started(kind), 2);
                due.is("nothing came", x.result(), 0);
                due.is("no RULE failed", x.count(2), 0);
                due.is("another kind", x.rule((kind + 1) % 3, 0, 1), 1);
            }
        }
    }

    private static void laterRulesHaveNoStart() {
        due.sentence("Terms: each later RULE of it has NO START");
        for (int kind = 0; kind < 3; kind++) {
            RecordLabels x = new RecordLabels();
            x.fail(kind, true);
            x.rule(kind, 0, 1);
            for (int code = 0; code < Names.size(kind); code++) {
                due.is("rule " + kind + " " + code, x.rule(kind, code, 1), RecordLabels.NO_START);
                due.is("rule of 0 " + kind + " " + code, x.rule(kind, code, 0), RecordLabels.NO_START);
                due.is("rule of -1 " + kind + " " + code, x.rule(kind, code, -1), RecordLabels.NO_START);
            }
            due.is("it stays failed", x.started(kind), 2);
            due.is("no RULE failed", x.count(2), 0);
        }
    }

    private static void codesThatAreToldAreThoseOfNow() {
        due.sentence("Terms: CODES are those of now (what is told)");
        RecordLabels x = withOtherOrders();
        due.is("record of a node", x.record(0, 0, 7, 25, 0), 0);
        due.is("its constant", x.name(0, x.cell(0, 0, 0)), Due.nameOf("hill"));
        due.is("its sign", x.name(2, x.cell(0, 0, 2)), 'a');
        due.is("part of its constant", x.name(0, x.part(0)), Due.nameOf("hill"));
        due.is("part of its sign", x.name(2, x.part(2)), 'a');
        due.is("another node", x.record(0, 4, 7, 0, 0), 1);
        due.is("record of an arc", x.record(1, 6, 0, 1, 7), 0);
        due.is("its constant", x.name(1, x.cell(1, 0, 0)), Due.nameOf("to"));
        due.is("part of its constant", x.name(1, x.part(0)), Due.nameOf("to"));
        x.put(0, 4, true);
        due.is("rule", x.rule(0, 0, 7), 1);
        due.is("result of hill", x.result(), 49);
        due.is("sum of hill and place", x.sum(0), 49 + 7);
        due.is("sum of to", x.sum(1), 8);
        x.lay(0, 0, 0, 1);
        x.lay(0, 0, 2, 25);
        x.lay(1, 0, 0, 0);
        exchangeFirstAndLast(x);
        due.is("a node that was laid", x.cell(0, 0, 0), 1);
        due.is("a sign that was laid", x.cell(0, 0, 2), 0);
        due.is("an arc that was laid", x.cell(1, 0, 0), 6);
        due.is("another node by its first code", x.cell(0, 1, 0), 0);
        due.is("another sign by its first code", x.cell(0, 1, 2), 25);
        due.is("what was put", x.member(0, 0), 0);
    }

    /** The first and the last of each kind have changed places. */
    private static RecordLabels withOtherOrders() {
        RecordLabels x = new RecordLabels();
        exchangeFirstAndLast(x);
        return x;
    }

    private static void exchangeFirstAndLast(RecordLabels x) {
        for (int kind = 0; kind < 3; kind++) {
            x.swap(kind, 0, Names.size(kind) - 1);
        }
    }

    private static void codesThatAreAnsweredAreThoseOfNow() {
        due.sentence("Terms: CODES are those of now (what is answered)");
        RecordLabels x = new RecordLabels();
        x.put(0, 0, true);
        x.record(0, 0, 7, 0, 0);
        x.swap(0, 0, 4);
        x.swap(2, 0, 25);
        x.swap(2, 25, 24);
        due.is("code", x.code(0, Due.nameOf("place")), 4);
        due.is("name", x.name(0, 4), Due.nameOf("place"));
        due.is("member", x.member(0, 0), 4);
        due.is("cell of a node", x.cell(0, 0, 0), 4);
        due.is("cell of a sign", x.cell(0, 0, 2), 24);
        due.is("part of a node", x.part(0), 4);
        due.is("part of a sign", x.part(2), 24);
        due.is("back", x.back(0, 0), 1);
        due.is("part of a node by back", x.part(0), 4);
        due.is("part of a sign by back", x.part(2), 24);
        due.is("filter by a sign", x.filter(0, 0, 2, 24, 24), 1);
        due.is("filter by a sign's first code", x.filter(0, 0, 2, 0, 0), 0);
        due.is("put", x.put(0, 4, false), 1);
    }

    private static void calls512() {
        due.sentence("What it is: An object is used for at most 512 calls");
        RecordLabels x = new RecordLabels();
        RecordLabels y = new RecordLabels();
        RecordLabels z = new RecordLabels();
        for (int i = 0; i < 511; i++) {
            x.rule(1, 3, 0);
            y.record(0, 5, 0, 0, 0);
            z.swap(2, i % 25, i % 25 + 1);
        }
        due.is("511 failures", x.count(2), 511);
        due.is("511 wrong records", y.count(3), 511);
        due.is("511 exchanges", z.name(2, 511 % 25), 'a' + nameAfterExchanges());
    }

    /** Which sign has that code after the exchanges, told by an order kept by itself. */
    private static int nameAfterExchanges() {
        int[] order = new int[26];
        for (int i = 0; i < order.length; i++) {
            order[i] = i;
        }
        for (int i = 0; i < 511; i++) {
            int sign = order[i % 25];
            order[i % 25] = order[i % 25 + 1];
            order[i % 25 + 1] = sign;
        }
        return order[511 % 25];
    }
}
