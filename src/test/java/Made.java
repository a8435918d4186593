/** Objects to test, brought to where a test wants them. */
final class Made {
    private Made() {
    }

    /** Types a text in pieces of up to eight characters. */
    static boolean typeAll(LabelLearner x, String text) {
        boolean all = true;
        for (int from = 0; from < text.length(); from += 8) {
            String piece = text.substring(from, Math.min(text.length(), from + 8));
            all &= x.type(packed(piece), piece.length());
        }
        return all;
    }

    static long packed(String piece) {
        long w = 0;
        for (int i = piece.length() - 1; i >= 0; i--) {
            w = w << 8 | piece.charAt(i);
        }
        return w;
    }

    static LabelLearner typed(String text) {
        LabelLearner x = new LabelLearner();
        typeAll(x, text);
        return x;
    }

    static LabelLearner loaded(String corpus) {
        LabelLearner x = typed(corpus);
        x.load();
        return x;
    }

    static LabelLearner spoken(String speech) {
        LabelLearner x = typed(speech);
        x.speak();
        return x;
    }

    /** The best is all A, as no weight was learnt, so that the second, which is kept, has a B at its end. */
    static LabelLearner spokenAndDecoded(String speech) {
        LabelLearner x = spoken(speech);
        x.decode(-1, false, true);
        return x;
    }

    /** As many sentences as there may be, each of as many words, none with the label A, and a speech of as many words. */
    static LabelLearner eight() {
        LabelLearner x = loaded("a/B b/C c/D d/B e/C f/D;".repeat(7) + "a/B b/C c/D d/B e/C f/D");
        typeAll(x, "a b c d e f");
        x.speak();
        return x;
    }

    /** An object in which nothing is as in a new one: what a refused call spoils can be seen in it. */
    static LabelLearner busy() {
        LabelLearner x = loaded("a/B ab/C;b/D c/A a/C;z/D");
        typeAll(x, "dog a");
        x.speak();
        x.learn(3);
        x.decode(1, false, true);
        typeAll(x, "cat by");
        return x;
    }

    static LabelLearner busyWith(String text) {
        LabelLearner x = busy();
        x.cut(0);
        typeAll(x, text);
        return x;
    }

    /** Numbers that no sentence of the busy object has: it has three, and the speech. */
    static int[] noSentences() {
        return new int[] {3, -2, 4, 7, 8, 9, -3, Integer.MIN_VALUE, Integer.MIN_VALUE + 1, Integer.MAX_VALUE,
            Integer.MAX_VALUE - 1};
    }
}
