/** Tells all that can be seen of an object, so that it can be compared with another one. */
final class Seen {
    interface Maker {
        LabelLearner make();
    }

    private interface Answer {
        long get();
    }

    private static final int PREFIXES = 20;

    private Seen() {
    }

    /** Each part is told of a new object: a look may change it, and no object is promised to answer a 513th call. */
    static String all(Maker maker) {
        StringBuilder told = new StringBuilder();
        tellCounts(told.append("counts:"), maker.make());
        tellSentences(told.append("\nsentences:"), maker.make());
        tellWeights(told.append("\nweights:"), maker.make());
        tellText(told.append("\ntext:"), maker.make());
        tellDecodings(told.append("\ndecodings:"), maker.make());
        tellLearning(told.append("\nlearning:"), maker.make());
        tellNextLoad(told.append("\nnext load:"), maker.make());
        return told.toString();
    }

    private static void tellCounts(StringBuilder told, LabelLearner x) {
        tell(told, "sentences", x::sentences);
        tell(told, "mistakes", x::mistakes);
        tell(told, "passes", x::passes);
        tell(told, "errors", () -> x.errors(false));
        tell(told, "by totals", () -> x.errors(true));
        tellLabels(told, x);
    }

    private static void tellLabels(StringBuilder told, LabelLearner x) {
        for (int word = 0; word < 6; word++) {
            int at = word;
            tell(told, "label", () -> x.label(at));
        }
    }

    private static void tellSentences(StringBuilder told, LabelLearner x) {
        for (int sentence = -1; sentence < 8; sentence++) {
            int words = wordsOf(x, sentence);
            told.append(" words ").append(words);
            for (int word = 0; word < words; word++) {
                tellWord(told, x, sentence, word);
            }
        }
    }

    private static int wordsOf(LabelLearner x, int sentence) {
        try {
            return x.words(sentence);
        } catch (IndexOutOfBoundsException none) {
            return 0;
        }
    }

    private static void tellWord(StringBuilder told, LabelLearner x, int sentence, int word) {
        tell(told, "given", () -> x.given(sentence, word));
        for (int k = 0; k < 3; k++) {
            int at = k;
            tell(told, "feature", () -> x.feature(sentence, word, at));
        }
    }

    private static void tellWeights(StringBuilder told, LabelLearner x) {
        for (int a = 0; a < 37; a++) {
            for (int b = 0; b < 4; b++) {
                told.append(' ').append(x.weight(a, b, false)).append('/').append(x.weight(a, b, true));
            }
        }
    }

    /** The characters can be seen only when the text, or the longest start of it that will do, is taken. */
    private static void tellText(StringBuilder told, LabelLearner x) {
        int length = 240;
        while (!x.cut(length)) {
            length--;
        }
        told.append(" length ").append(length);
        for (int n = length; n >= 0 && n > length - PREFIXES; n--) {
            x.cut(n);
            if (taken(x::speak) || taken(x::load)) {
                told.append(" taken ").append(n);
                tellSentences(told, x);
                return;
            }
        }
    }

    private static boolean taken(Answer call) {
        try {
            call.get();
            return true;
        } catch (IllegalArgumentException refused) {
            return false;
        }
    }

    private static void tellDecodings(StringBuilder told, LabelLearner x) {
        for (int kind = 0; kind < 9 * 4; kind++) {
            int sentence = kind / 4 - 1;
            boolean totals = kind % 2 == 1;
            boolean second = kind % 4 > 1;
            tell(told, "decode", () -> x.decode(sentence, totals, second));
            tellLabels(told, x);
        }
    }

    private static void tellLearning(StringBuilder told, LabelLearner x) {
        tell(told, "learn", () -> x.learn(2));
        tellWeights(told, x);
        tellCounts(told, x);
    }

    private static void tellNextLoad(StringBuilder told, LabelLearner x) {
        x.cut(0);
        Made.typeAll(x, "b/D  a/A c/C;ab/B");
        tell(told, "load", x::load);
        Made.typeAll(x, "ab a");
        tell(told, "speak", x::speak);
        tell(told, "learn", () -> x.learn(2));
        tellCounts(told, x);
        tellSentences(told, x);
    }

    private static void tell(StringBuilder told, String call, Answer answer) {
        told.append(' ').append(call).append(' ');
        try {
            told.append(answer.get());
        } catch (RuntimeException thrown) {
            told.append(thrown.getClass().getSimpleName());
        }
    }
}
