/** Promises 1 to 8: a new object, and the calls of constants. */
public final class ConstantsTest {
    private static final int[] NO_KINDS = {-1, 3, Integer.MIN_VALUE, Integer.MAX_VALUE};

    private static final Due due = new Due();

    public static void main(String[] args) {
        promise1NewObject();
        promise2Code();
        promise3Name();
        promise4Swap();
        promise5RuleValues();
        promise5RuleWraps();
        promise5RuleRefusals();
        promise6Result();
        promise7Fail();
        promise8Started();
        due.end();
    }

    private static void promise1NewObject() {
        RecordLabels x = new RecordLabels();
        for (int kind = 0; kind < 3; kind++) {
            for (int code = 0; code < Names.size(kind); code++) {
                due.is("new: code of " + Names.of(kind)[code], x.code(kind, Due.nameOf(Names.of(kind)[code])), code);
            }
            due.is("new: started " + kind, x.started(kind), 0);
            due.is("new: told to fail " + kind, x.fail(kind, false), 0);
        }
        for (int set = 0; set < 10; set++) {
            due.is("new: size of set " + set, x.about(set, 0), 0);
            due.is("new: kind of set " + set, x.about(set, 1), 0);
        }
        for (int what = 0; what < 4; what++) {
            due.is("new: count " + what, x.count(what), 0);
        }
        due.is("new: result", x.result(), 0);
        due.is("new: part", x.part(0), RecordLabels.NONE);
        due.is("new: found", x.found(0), RecordLabels.NONE);
        due.is("new: sum of nodes", x.sum(0), 0);
        due.is("new: sum of arcs", x.sum(1), 0);
        x.swap(0, 0, 1);
        x.put(0, 0, true);
        due.is("new: another object has its own order", new RecordLabels().code(0, Due.nameOf("place")), 0);
        due.is("new: another object has its own sets", new RecordLabels().about(0, 0), 0);
    }

    private static void promise2Code() {
        RecordLabels x = new RecordLabels();
        for (int kind : NO_KINDS) {
            due.is("code: kind " + kind, x.code(kind, 'a'), RecordLabels.BAD);
        }
        String[] noNodes = {"", "to", "a", "plac", "places", "Place"};
        for (String text : noNodes) {
            due.is("code: no node " + text, x.code(0, Due.nameOf(text)), RecordLabels.NONE);
        }
        due.is("code: a node is no arc", x.code(1, Due.nameOf("hill")), RecordLabels.NONE);
        due.is("code: below a", x.code(2, 'a' - 1), RecordLabels.NONE);
        due.is("code: above z", x.code(2, 'z' + 1), RecordLabels.NONE);
        due.is("code: a letter too many", x.code(2, Due.nameOf("ab")), RecordLabels.NONE);
        due.is("code: the low half alone does not count", x.code(2, 'a' | 1L << 32), RecordLabels.NONE);
        due.is("code: a letter in the sign bit", x.code(2, 'a' | Long.MIN_VALUE), RecordLabels.NONE);
        due.is("code: below 0", x.code(0, -1), RecordLabels.NONE);
        x.swap(1, 0, 6);
        due.is("code: of now", x.code(1, Due.nameOf("beside")), 0);
        due.is("code: of now, the other", x.code(1, Due.nameOf("to")), 6);
    }

    private static void promise3Name() {
        RecordLabels x = new RecordLabels();
        for (int kind = 0; kind < 3; kind++) {
            for (int code = 0; code < Names.size(kind); code++) {
                due.is("name " + kind + " " + code, x.name(kind, code), Due.nameOf(Names.of(kind)[code]));
            }
            due.is("name: behind the last of " + kind, x.name(kind, Names.size(kind)), 0);
            due.is("name: below the first of " + kind, x.name(kind, -1), 0);
            due.is("name: greatest code of " + kind, x.name(kind, Integer.MAX_VALUE), 0);
            due.is("name: least code of " + kind, x.name(kind, Integer.MIN_VALUE), 0);
        }
        for (int kind : NO_KINDS) {
            due.is("name: kind " + kind, x.name(kind, 0), 0);
        }
        x.swap(2, 3, 25);
        due.is("name: of now", x.name(2, 3), 'z');
        due.is("name: of now, the other", x.name(2, 25), 'd');
    }

    private static void promise4Swap() {
        RecordLabels x = new RecordLabels();
        for (int kind : NO_KINDS) {
            due.is("swap: kind " + kind, x.swap(kind, 0, 0), RecordLabels.BAD);
        }
        int[][] noCodes = {{-1, 0}, {0, -1}, {5, 0}, {0, 5}, {Integer.MAX_VALUE, 0}, {0, Integer.MIN_VALUE}};
        for (int[] codes : noCodes) {
            due.is("swap: codes " + codes[0] + " " + codes[1], x.swap(0, codes[0], codes[1]), RecordLabels.BAD);
        }
        due.is("swap: refused changes nothing", x.code(0, Due.nameOf("place")), 0);
        due.is("swap: a code with itself", x.swap(0, 2, 2), 1);
        due.is("swap: with itself nothing moves", x.name(0, 2), Due.nameOf("town"));
        due.is("swap: 0 and 1", x.swap(0, 0, 1), 1);
        due.is("swap: 1 and 2", x.swap(0, 1, 2), 1);
        String[] order = {"road", "town", "place", "river", "hill"};
        for (int code = 0; code < order.length; code++) {
            due.is("swap: name at " + code, x.name(0, code), Due.nameOf(order[code]));
            due.is("swap: code of " + order[code], x.code(0, Due.nameOf(order[code])), code);
        }
        due.is("swap: other kinds stay", x.name(1, 0), Due.nameOf("to"));
        due.is("swap: starts nothing", x.started(0), 0);
        due.is("swap: the rule goes with the constant", x.rule(0, 1, 5), 1);
        due.is("swap: town's rule", x.result(), 15);
        x.swap(2, 0, 25);
        x.rule(2, 0, 0);
        due.is("swap: a sign keeps its number in the alphabet", x.result(), 25);
    }

    private static void ruled(RecordLabels x, String name, int kind, long v, long want) {
        int code = x.code(kind, Due.nameOf(name));
        due.is("rule of " + name + " of " + v, x.rule(kind, code, v), 1);
        due.is("what comes of " + name + " of " + v, x.result(), want);
    }

    private static void promise5RuleValues() {
        RecordLabels x = new RecordLabels();
        ruled(x, "place", 0, -7, -7);
        ruled(x, "road", 0, 21, 42);
        ruled(x, "town", 0, -10, 0);
        ruled(x, "river", 0, 9, -9);
        ruled(x, "hill", 0, -12, 144);
        ruled(x, "to", 1, 41, 42);
        ruled(x, "from", 1, 0, -1);
        ruled(x, "near", 1, 7, 3);
        ruled(x, "near", 1, -7, -3);
        ruled(x, "near", 1, -1, 0);
        ruled(x, "over", 1, 3, 33);
        ruled(x, "over", 1, -3, -33);
        ruled(x, "over", 1, 101, 0);
        ruled(x, "under", 1, 3, 1);
        ruled(x, "under", 1, -3, 1);
        ruled(x, "under", 1, 101, 100);
        ruled(x, "under", 1, -1, 0);
        ruled(x, "within", 1, 0, 5);
        ruled(x, "within", 1, 1, 7);
        ruled(x, "within", 1, 2, 9);
        ruled(x, "beside", 1, 0, 0);
        ruled(x, "beside", 1, 8, 8);
        for (int sign = 0; sign < 26; sign++) {
            ruled(x, Names.of(2)[sign], 2, 85, 85 ^ sign);
        }
        ruled(x, "z", 2, -1, ~25L);
    }

    private static void promise5RuleWraps() {
        RecordLabels x = new RecordLabels();
        ruled(x, "place", 0, Long.MIN_VALUE, Long.MIN_VALUE);
        ruled(x, "road", 0, Long.MAX_VALUE, -2);
        ruled(x, "town", 0, Long.MAX_VALUE, Long.MIN_VALUE + 9);
        ruled(x, "river", 0, Long.MIN_VALUE, Long.MIN_VALUE);
        ruled(x, "hill", 0, 1L << 32, 0);
        ruled(x, "hill", 0, 1L << 31, 1L << 62);
        ruled(x, "to", 1, Long.MAX_VALUE, Long.MIN_VALUE);
        ruled(x, "from", 1, Long.MIN_VALUE, Long.MAX_VALUE);
        ruled(x, "near", 1, Long.MIN_VALUE, -(1L << 62));
        ruled(x, "over", 1, Long.MIN_VALUE, 0);
        ruled(x, "over", 1, 1L << 32, 0);
        ruled(x, "under", 1, Long.MIN_VALUE, 100);
        ruled(x, "beside", 1, Long.MAX_VALUE, Long.MAX_VALUE);
        ruled(x, "b", 2, Long.MIN_VALUE, Long.MIN_VALUE + 1);
        due.is("wraps: no failure", x.count(2), 0);
    }

    private static void promise5RuleRefusals() {
        RecordLabels x = new RecordLabels();
        for (int kind : NO_KINDS) {
            due.is("rule: kind " + kind, x.rule(kind, 0, 1), RecordLabels.BAD);
        }
        due.is("rule: code -1", x.rule(1, -1, 0), RecordLabels.BAD);
        due.is("rule: code 7 of arcs", x.rule(1, 7, 0), RecordLabels.BAD);
        due.is("rule: code 5 of nodes", x.rule(0, 5, 0), RecordLabels.BAD);
        due.is("rule: code 26 of signs", x.rule(2, 26, 0), RecordLabels.BAD);
        due.is("rule: BAD starts nothing", x.started(1), 0);
        due.is("rule: BAD is no failure", x.count(2), 0);
        due.is("rule: over 0", x.rule(1, 3, 0), RecordLabels.ZERO);
        due.is("rule: what fails starts its kind", x.started(1), 1);
        due.is("rule: under 0", x.rule(1, 4, 0), RecordLabels.ZERO);
        due.is("rule: within 3", x.rule(1, 5, 3), RecordLabels.INDEX);
        due.is("rule: within -1", x.rule(1, 5, -1), RecordLabels.INDEX);
        due.is("rule: within what is 0 in its low half", x.rule(1, 5, 1L << 32), RecordLabels.INDEX);
        due.is("rule: within the least", x.rule(1, 5, Long.MIN_VALUE), RecordLabels.INDEX);
        due.is("rule: beside -1", x.rule(1, 6, -1), RecordLabels.OWN);
        due.is("rule: beside the least", x.rule(1, 6, Long.MIN_VALUE), RecordLabels.OWN);
        due.is("rule: failures are counted", x.count(2), 8);
        due.is("rule: a failure leaves later rules", x.rule(1, 0, 1), 1);
        x.swap(1, 0, 3);
        due.is("rule: over 0 by its new code", x.rule(1, 0, 0), RecordLabels.ZERO);
        x.fail(2, true);
        due.is("rule: BAD ahead of START", x.rule(2, 26, 0), RecordLabels.BAD);
        due.is("rule: START", x.rule(2, 0, 0), RecordLabels.START);
        due.is("rule: NO_START", x.rule(2, 0, 0), RecordLabels.NO_START);
        due.is("rule: NO_START of another constant", x.rule(2, 9, 0), RecordLabels.NO_START);
        due.is("rule: BAD ahead of NO_START", x.rule(2, 26, 0), RecordLabels.BAD);
        RecordLabels y = new RecordLabels();
        y.fail(1, true);
        due.is("rule: START ahead of ZERO", y.rule(1, 3, 0), RecordLabels.START);
        due.is("rule: NO_START ahead of ZERO", y.rule(1, 3, 0), RecordLabels.NO_START);
        due.is("rule: START and NO_START are no failures of rules", y.count(2), 0);
        due.is("rule: other kinds start", y.rule(0, 0, 0), 1);
    }

    private static void promise6Result() {
        RecordLabels x = new RecordLabels();
        x.rule(1, 3, 0);
        due.is("result: 0 before a rule that was 1", x.result(), 0);
        x.rule(0, 2, 1);
        due.is("result: of the rule", x.result(), 11);
        x.rule(1, 3, 0);
        x.rule(1, 5, 9);
        x.rule(1, 6, -9);
        x.rule(1, 7, 9);
        x.fail(2, true);
        x.rule(2, 0, 9);
        x.rule(2, 0, 9);
        due.is("result: kept by refusals and failures", x.result(), 11);
        x.record(0, 4, 9, 0, 0);
        x.sum(0);
        due.is("result: kept by sum", x.result(), 11);
        x.swap(0, 2, 3);
        due.is("result: kept by swap", x.result(), 11);
        x.rule(0, 2, 1);
        due.is("result: the latest", x.result(), -1);
    }

    private static void promise7Fail() {
        RecordLabels x = new RecordLabels();
        for (int kind : NO_KINDS) {
            due.is("fail: kind " + kind, x.fail(kind, true), RecordLabels.BAD);
        }
        due.is("fail: not told before", x.fail(1, true), 0);
        due.is("fail: told before", x.fail(1, true), 1);
        due.is("fail: told before, no longer", x.fail(1, false), 1);
        due.is("fail: not told any more", x.fail(1, false), 0);
        due.is("fail: starts nothing", x.started(1), 0);
        due.is("fail: taken back, the rule works", x.rule(1, 0, 0), 1);
        due.is("fail: STATE when started", x.fail(1, true), RecordLabels.STATE);
        due.is("fail: refused changes nothing", x.rule(1, 0, 0), 1);
        x.fail(2, true);
        x.rule(2, 0, 0);
        due.is("fail: STATE when failed", x.fail(2, false), RecordLabels.STATE);
        due.is("fail: what failed stays so", x.rule(2, 0, 0), RecordLabels.NO_START);
        due.is("fail: each kind for itself", x.fail(0, true), 0);
    }

    private static void promise8Started() {
        RecordLabels x = new RecordLabels();
        for (int kind : NO_KINDS) {
            due.is("started: kind " + kind, x.started(kind), RecordLabels.BAD);
        }
        x.fail(0, true);
        due.is("started: told to fail is not started", x.started(0), 0);
        x.rule(0, 0, 0);
        due.is("started: failed", x.started(0), 2);
        x.rule(0, 0, 0);
        due.is("started: still failed", x.started(0), 2);
        x.rule(1, 0, 0);
        due.is("started: by a rule", x.started(1), 1);
        x.code(2, 'a');
        x.name(2, 0);
        x.result();
        due.is("started: not by other calls", x.started(2), 0);
    }
}
