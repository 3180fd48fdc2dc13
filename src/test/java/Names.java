/** The names of the constants of each kind, in the order that is first told. */
final class Names {
    private static final String[][] NAMES = {
        {"place", "road", "town", "river", "hill"},
        {"to", "from", "near", "over", "under", "within", "beside"},
        {"a", "b", "c", "d", "e", "f", "g", "h", "i", "j", "k", "l", "m",
            "n", "o", "p", "q", "r", "s", "t", "u", "v", "w", "x", "y", "z"}
    };

    private Names() {
    }

    static String[] of(int kind) {
        return NAMES[kind].clone();
    }

    static int size(int kind) {
        return NAMES[kind].length;
    }

    /** The code of now of a constant that there is. */
    static int code(RecordLabels x, String name) {
        for (int kind = 0; kind < NAMES.length; kind++) {
            int code = x.code(kind, Due.nameOf(name));
            if (code >= 0) {
                return code;
            }
        }
        throw new IllegalArgumentException("no constant " + name);
    }
}
