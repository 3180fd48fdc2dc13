/** Counts and prints the answers of one test class that are not the ones that are due. */
final class Due {
    private int asked = 0;
    private int wrong = 0;
    private String sentence = "";
    private int askedBeforeSentence = -1;

    /** The sentence of the document that the answers from here on belong to. */
    void sentence(String text) {
        endSentence();
        sentence = "[" + text + "] ";
        askedBeforeSentence = asked;
    }

    /** A sentence without an answer is a test that tests nothing. */
    private void endSentence() {
        if (asked == askedBeforeSentence) {
            wrong++;
            System.out.println(sentence + "nothing was asked");
        }
    }

    void is(String call, long got, long want) {
        asked++;
        if (got != want) {
            wrong++;
            System.out.println(sentence + call + " answered " + got + ", due is " + want);
        }
    }

    void holds(String what, boolean is) {
        is(what, is ? 1 : 0, 1);
    }

    int asked() {
        return asked;
    }

    void end() {
        endSentence();
        System.out.println(asked + " answers, " + wrong + " not as due");
        if (wrong != 0) {
            System.exit(1);
        }
    }

    /** A name as the document tells it: its first letter lowest, 8 bits each. */
    static long nameOf(String text) {
        long name = 0;
        for (int i = text.length() - 1; i >= 0; i--) {
            name = name << 8 | text.charAt(i);
        }
        return name;
    }
}
