import java.util.EnumMap;
import java.util.LinkedHashMap;
import java.util.LinkedHashSet;
import java.util.Map;
import java.util.Set;

/** Asks a call of an object, and whether it changed what it may change and nothing else. */
final class Effect {
    interface Call {
        long on(RecordLabels x);
    }

    private final Due due;
    private final Map<World, Map<String, Long>> before = new EnumMap<>(World.class);

    Effect(Due due) {
        this.due = due;
        for (World world : World.values()) {
            before.put(world, Told.of(world.made()));
        }
    }

    long before(World world, String call) {
        return before.get(world).get(call);
    }

    /** The call has this answer in every world, and changes nothing. */
    void none(String what, Call call, long answer) {
        for (World world : World.values()) {
            none(world, what, call, answer);
        }
    }

    void none(World world, String what, Call call, long answer) {
        only(world, what, call, answer, Map.of());
    }

    /** The call has this answer, and what changes are the answers told, to what is told. */
    void only(World world, String what, Call call, long answer, Map<String, Long> changes) {
        RecordLabels x = world.made();
        String where = world + ": " + what;
        due.is(where, call.on(x), answer);
        Map<String, Long> want = new LinkedHashMap<>(before.get(world));
        want.putAll(changes);
        same(where, Told.of(x), want);
    }

    void same(String where, Map<String, Long> got, Map<String, Long> want) {
        Set<String> calls = new LinkedHashSet<>(want.keySet());
        calls.addAll(got.keySet());
        for (String call : calls) {
            long unheard = Long.MIN_VALUE + 77;
            due.is(where + ", then " + call, got.getOrDefault(call, unheard), want.getOrDefault(call, unheard));
        }
    }
}
