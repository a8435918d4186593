/**
 * The boundary cases that promises 1 to 5 name (a new object, type, cut, load, speak), sentence by sentence, each on both
 * sides of its boundary; behind a refused call all that can be seen is as if the call had not been made.
 */
public final class TextBoundariesTest {
    private static final Class<IndexOutOfBoundsException> INDEX = IndexOutOfBoundsException.class;
    private static final Class<IllegalArgumentException> ARGUMENT = IllegalArgumentException.class;
    private static final Class<IllegalStateException> STATE = IllegalStateException.class;

    private static final int LEAST = Integer.MIN_VALUE;
    private static final int GREATEST = Integer.MAX_VALUE;

    private static final Check CHECK = new Check();

    public static void main(String[] args) {
        newHasEmptyText();
        newHasNoCorpus();
        newHasNoSpeech();
        newHasAllWeights0();
        typeTakesLowestByteFirst();
        typeRefusesOtherLengths();
        typeRefusesMoreThan240();
        typeRefusesOtherCharacters();
        cutKeepsFirst();
        cutRefusesNegative();
        cutRefusesMore();
        loadAnswersSentences();
        loadEmptiesText();
        loadClearsWeights();
        loadForgetsDecoding();
        loadChangesAllThatAndNoMore();
        loadRefusesWhatIsNone();
        speakAnswersWords();
        speakEmptiesText();
        speakForgetsDecoding();
        speakChangesAllThatAndNoMore();
        speakRefusesWhatIsNone();
        CHECK.end();
    }

    private static void newHasEmptyText() {
        CHECK.about("Promise 1: An empty text");
        CHECK.same("cut(0)", new LabelLearner().cut(0), true);
        CHECK.same("cut(1)", new LabelLearner().cut(1), false);
        CHECK.same("240 characters have room", Made.typeAll(new LabelLearner(), "abcde ".repeat(40)), true);
    }

    private static void newHasNoCorpus() {
        CHECK.about("Promise 1: no corpus");
        LabelLearner x = new LabelLearner();
        CHECK.same("sentences()", x.sentences(), 0);
        CHECK.same("mistakes()", x.mistakes(), 0);
        CHECK.same("passes()", x.passes(), 0);
        CHECK.refused("words(0)", INDEX, () -> x.words(0));
        CHECK.refused("given(0, 0)", INDEX, () -> x.given(0, 0));
        CHECK.refused("learn(1)", STATE, () -> x.learn(1));
    }

    private static void newHasNoSpeech() {
        CHECK.about("Promise 1: no speech");
        LabelLearner x = new LabelLearner();
        CHECK.refused("words(-1)", INDEX, () -> x.words(-1));
        CHECK.refused("feature(-1, 0, 0)", INDEX, () -> x.feature(-1, 0, 0));
        CHECK.refused("decode(-1)", INDEX, () -> x.decode(-1, false, false));
        CHECK.refused("score(-1)", INDEX, () -> x.score(-1, 0, false));
    }

    private static void newHasAllWeights0() {
        CHECK.about("Promise 1: all weights and totals 0");
        allWeightsAre0(new LabelLearner());
    }

    private static void allWeightsAre0(LabelLearner x) {
        for (int a = 0; a < 37; a++) {
            for (int b = 0; b < 4; b++) {
                CHECK.same("weight(" + a + ", " + b + ", false)", x.weight(a, b, false), 0);
                CHECK.same("weight(" + a + ", " + b + ", true)", x.weight(a, b, true), 0);
            }
        }
    }

    private static void typeTakesLowestByteFirst() {
        CHECK.about("Promise 2: n characters come behind the text, the lowest byte of w first.");
        String eight = "ab  c de";
        for (int n = 1; n <= 8; n++) {
            LabelLearner x = new LabelLearner();
            CHECK.same("type of " + n, x.type(Made.packed(eight), n), true);
            CHECK.same(n + " are there", x.cut(n) && !x.cut(n + 1), true);
            int count = n;
            String piece = eight.substring(0, count);
            CHECK.seenAlike("type of " + n + " at once", () -> atOnce(eight, count), () -> oneByOne(piece));
        }
        LabelLearner x = Made.typed("ab");
        x.type(Made.packed("c d"), 3);
        x.speak();
        CHECK.same("abc d: the bucket of abc", x.feature(-1, 0, 0), 18);
        CHECK.same("abc d: the bucket of d", x.feature(-1, 1, 0), 29);
    }

    private static LabelLearner atOnce(String characters, int n) {
        LabelLearner x = new LabelLearner();
        x.type(Made.packed(characters), n);
        return x;
    }

    private static LabelLearner oneByOne(String characters) {
        LabelLearner x = new LabelLearner();
        for (char c : characters.toCharArray()) {
            x.type(c, 1);
        }
        return x;
    }

    private static void typeRefusesOtherLengths() {
        CHECK.about("Promise 2: False, changing nothing, when n is not 1 .. 8");
        CHECK.same("n = 1", Made.typed("ab").type(Made.packed("cccccccc"), 1), true);
        CHECK.same("n = 8", Made.typed("ab").type(Made.packed("cccccccc"), 8), true);
        int[] wrong = {0, 9, -1, -8, 10, 16, 240, 241, 256 + 1, LEAST, LEAST + 1, GREATEST, GREATEST - 1};
        for (int n : wrong) {
            CHECK.falseAndLeaves("n = " + n, LabelLearner::new, x -> x.type(Made.packed("cccccccc"), n));
            CHECK.falseAndLeaves("n = " + n, Made::busy, x -> x.type(Made.packed("cccccccc"), n));
        }
    }

    private static void typeRefusesMoreThan240() {
        CHECK.about("Promise 2: False, changing nothing, when ... there would be more than 240");
        for (int n = 1; n <= 8; n++) {
            int count = n;
            String room = " ".repeat(235 - n) + "ab cd";
            CHECK.same("room for " + n, Made.busyWith(room).type(Made.packed("abcdefgh"), n), true);
            CHECK.falseAndLeaves("room for one less than " + n, () -> Made.busyWith(" " + room),
                x -> x.type(Made.packed("abcdefgh"), count));
            CHECK.falseAndLeaves("no room for " + n, () -> Made.busyWith(" ".repeat(235) + "ab cd"),
                x -> x.type(Made.packed("abcdefgh"), count));
        }
        LabelLearner x = Made.busyWith(" ".repeat(240));
        CHECK.same("full", x.type('a', 1), false);
        CHECK.same("cut by one", x.cut(239), true);
        CHECK.same("not full", x.type('a', 1), true);
        CHECK.same("full again", x.type('a', 1), false);
    }

    private static void typeRefusesOtherCharacters() {
        CHECK.about("Promise 2: False, changing nothing, when ... one is not as said");
        int[] right = {32, 33, 'a', 125, 126};
        int[] wrong = {0, 10, 31, 127, 128, 128 + 'a', 160, 254, 255};
        for (int at = 0; at < 8; at++) {
            int n = at + 1;
            for (int code : right) {
                CHECK.same("code " + code + " at " + at, Made.busy().type(with(code, at), n), true);
            }
            for (int code : wrong) {
                long w = with(code, at);
                CHECK.falseAndLeaves("code " + code + " the last of " + n, Made::busy, x -> x.type(w, n));
                CHECK.same("code " + code + " among 8, at " + at, Made.busy().type(w, 8), false);
                CHECK.same("code " + code + " behind the first " + at, Made.busy().type(w, at), at > 0);
            }
        }
        CHECK.falseAndLeaves("only the first of 8 is wrong", Made::busy, x -> x.type(with(31, 0), 8));
        CHECK.falseAndLeaves("all bits", Made::busy, x -> x.type(-1L, 8));
        CHECK.falseAndLeaves("no bits", Made::busy, x -> x.type(0L, 1));
    }

    /** Eight times x, but for one character. */
    private static long with(int code, int at) {
        long others = Made.packed("xxxxxxxx") & ~(255L << 8 * at);
        return others | (long) code << 8 * at;
    }

    private static void cutKeepsFirst() {
        CHECK.about("Promise 3: The text keeps its first n characters.");
        for (int n = 0; n <= 9; n++) {
            int count = n;
            CHECK.same("cut(" + n + ") of 9", Made.typed("ab cde fg").cut(n), true);
            String kept = "ab cde fg".substring(0, count);
            CHECK.seenAlike("cut(" + n + ")", () -> cutTo("ab cde fg", count), () -> Made.typed(kept));
        }
        CHECK.same("cut(0) of none", new LabelLearner().cut(0), true);
        CHECK.same("cut(240) of 240", Made.typed(" ".repeat(240)).cut(240), true);
        LabelLearner x = cutTo("abz", 2);
        x.type('c', 1);
        x.speak();
        CHECK.same("abc: what was cut is gone", x.feature(-1, 0, 0), 18);
    }

    private static LabelLearner cutTo(String text, int n) {
        LabelLearner x = Made.typed(text);
        x.cut(n);
        return x;
    }

    private static void cutRefusesNegative() {
        CHECK.about("Promise 3: False, changing nothing, when n is negative");
        int[] wrong = {-1, -2, -6, -240, LEAST, LEAST + 1};
        for (int n : wrong) {
            CHECK.falseAndLeaves("cut(" + n + ")", Made::busy, x -> x.cut(n));
            CHECK.falseAndLeaves("cut(" + n + ") of none", LabelLearner::new, x -> x.cut(n));
        }
    }

    private static void cutRefusesMore() {
        CHECK.about("Promise 3: False, changing nothing, when ... it has not so many");
        int[] lengths = {0, 1, 2, 8, 9, 239, 240};
        for (int length : lengths) {
            String text = " ".repeat(length);
            int[] wrong = {length + 1, length + 2, 241, GREATEST};
            CHECK.same("cut(" + length + ")", Made.typed(text).cut(length), true);
            for (int n : wrong) {
                CHECK.falseAndLeaves("cut(" + n + ") of " + length, () -> Made.busyWith(text), x -> x.cut(n));
            }
        }
        CHECK.falseAndLeaves("cut(7) of 6", Made::busy, x -> x.cut(7));
        LabelLearner x = Made.typed("abcd");
        x.cut(2);
        CHECK.same("cut(3) behind cut(2)", x.cut(3), false);
    }

    private static void loadAnswersSentences() {
        CHECK.about("Promise 4: The text is the corpus from now on: how many sentences");
        String[] texts = {"a/A", "a/A;b/B", "a/D;b/C c/B;d/A", "a/A;a/A;a/A;a/A;a/A;a/A;a/A;a/A"};
        int[] due = {1, 2, 3, 8};
        for (int i = 0; i < texts.length; i++) {
            CHECK.same("load of " + texts[i], Made.typed(texts[i]).load(), due[i]);
            CHECK.same("load of " + texts[i] + " behind another", Made.busyWith(texts[i]).load(), due[i]);
            CHECK.same("sentences of " + texts[i], Made.loaded(texts[i]).sentences(), due[i]);
        }
        LabelLearner x = Made.busyWith("zab/C");
        x.load();
        CHECK.same("its word", x.feature(0, 0, 1), 0);
        CHECK.same("its label", x.given(0, 0), 2);
        CHECK.refused("what was in the old one", INDEX, () -> x.words(1));
        CHECK.refused("what was in the old one", INDEX, () -> x.given(0, 1));
        CHECK.same("the speech is still there", x.words(-1), 2);
        CHECK.same("and as it was", x.feature(-1, 0, 0), 28);
    }

    private static void loadEmptiesText() {
        CHECK.about("Promise 4: the text is empty then");
        LabelLearner x = Made.busyWith(" ".repeat(237) + "a/A");
        x.load();
        CHECK.same("cut(1)", x.cut(1), false);
        CHECK.same("all 240 have room again", Made.typeAll(x, " ".repeat(240)), true);
        LabelLearner y = Made.loaded("a/A;b/B");
        CHECK.refused("load again", ARGUMENT, y::load);
        CHECK.same("the corpus stays", y.sentences(), 2);
    }

    private static void loadClearsWeights() {
        CHECK.about("Promise 4: weights and totals are 0");
        LabelLearner x = Made.busyWith("a/D");
        x.load();
        allWeightsAre0(x);
        LabelLearner full = Made.loaded("g/D b/D");
        full.learn(1);
        CHECK.same("the first weight is not 0", full.weight(0, 0, false) < 0, true);
        CHECK.same("nor is the last one", full.weight(36, 3, false) > 0, true);
        Made.typeAll(full, "a/A");
        full.load();
        allWeightsAre0(full);
        LabelLearner y = Made.busyWith("a/A");
        y.load();
        CHECK.same("errors by weights of 0", y.errors(false), 0);
        CHECK.same("errors by totals of 0", y.errors(true), 0);
    }

    private static void loadForgetsDecoding() {
        CHECK.about("Promise 4: no decoding is kept");
        LabelLearner x = Made.busyWith("a/A b/B c/C d/D e/A f/B");
        CHECK.same("there is one before", x.label(0) >= 0, true);
        x.load();
        for (int word = 0; word < 6; word++) {
            int at = word;
            CHECK.refused("label(" + word + ")", INDEX, () -> x.label(at));
        }
    }

    private static void loadChangesAllThatAndNoMore() {
        CHECK.about("Promise 4: The text is the corpus from now on ...; the text is empty then, weights and totals are 0, no "
            + "decoding is kept.");
        String corpus = "ab/D a/A;c/B";
        CHECK.seenAlike("load behind all else, and load behind the speech alone", () -> {
            LabelLearner x = Made.busyWith(corpus);
            x.load();
            return x;
        }, () -> {
            LabelLearner x = Made.spoken("dog a");
            Made.typeAll(x, corpus);
            x.load();
            return x;
        });
        LabelLearner x = Made.busyWith(corpus);
        x.load();
        x.decode(-1, false, true);
        CHECK.same("the speech can be decoded still", x.label(0) * 10 + x.label(1), 1);
    }

    private static void loadRefusesWhatIsNone() {
        CHECK.about("Promise 4: IllegalArgumentException when it is none.");
        String[] wrong = {"", " ", ";", "/", "a", "a b", "a/", "a/E", "a/A;", "a/A;;b/B", ";a/A", "a/Ab/B", "abcdefg/A",
            "a/A b/B c/C d/D e/A f/B g/C", "a/D b/D;c/D;d/D;e/D f/D g", "a/D;a/D;a/D;a/D;a/D;a/D;a/D;a/",
            "a/D;b/D c/D;d/D .", "a/D;b/D;c/D;d/D;e/D;f/D;g/D;h/D;", "a/D;b/D;c/D;d/D;e/D;f/D;g/D;h/D;i/D",
            "a/D b/D c/D d/D e/D f/D ; g", " ".repeat(240)};
        for (String text : wrong) {
            CHECK.throwsAndLeaves("load of [" + text + "]", ARGUMENT, () -> Made.busyWith(text), LabelLearner::load);
            CHECK.throwsAndLeaves("load of [" + text + "], new", ARGUMENT, () -> Made.typed(text), LabelLearner::load);
        }
    }

    private static void speakAnswersWords() {
        CHECK.about("Promise 5: The text is the speech from now on, the sentence -1: how many words");
        String[] texts = {"a", "ab c", "a b c", "a b c d", "a b c d e", "abcdef b c d e abcdef"};
        for (int i = 0; i < texts.length; i++) {
            CHECK.same("speak of " + texts[i], Made.typed(texts[i]).speak(), i + 1);
            CHECK.same("speak of " + texts[i] + " behind another", Made.busyWith(texts[i]).speak(), i + 1);
            CHECK.same("words of " + texts[i], Made.spoken(texts[i]).words(-1), i + 1);
        }
        LabelLearner x = Made.busyWith("zab");
        x.speak();
        CHECK.same("its word", x.feature(-1, 0, 1), 0);
        CHECK.refused("what was in the old one", INDEX, () -> x.feature(-1, 1, 0));
        CHECK.same("the corpus is still there", x.sentences() * 100 + x.words(1) * 10 + x.given(1, 2), 332);
        CHECK.same("the passes too", x.passes(), Made.busy().passes());
        CHECK.same("the mistakes too", x.mistakes(), Made.busy().mistakes());
        CHECK.same("the weights too", x.score(1, 27, false), Made.busy().score(1, 27, false));
        CHECK.same("the totals too", x.score(1, 27, true), Made.busy().score(1, 27, true));
    }

    private static void speakEmptiesText() {
        CHECK.about("Promise 5: the text is empty then");
        LabelLearner x = Made.busyWith(" ".repeat(239) + "a");
        x.speak();
        CHECK.same("cut(1)", x.cut(1), false);
        CHECK.same("all 240 have room again", Made.typeAll(x, " ".repeat(240)), true);
        LabelLearner y = Made.spoken("a b");
        CHECK.refused("speak again", ARGUMENT, y::speak);
        CHECK.same("the speech stays", y.words(-1), 2);
    }

    private static void speakForgetsDecoding() {
        CHECK.about("Promise 5: no decoding is kept");
        LabelLearner x = Made.busyWith("a b c d e f");
        CHECK.same("there is one before", x.label(0) >= 0, true);
        x.speak();
        for (int word = 0; word < 6; word++) {
            int at = word;
            CHECK.refused("label(" + word + ")", INDEX, () -> x.label(at));
        }
    }

    private static void speakChangesAllThatAndNoMore() {
        CHECK.about("Promise 5: The text is the speech from now on ...; the text is empty then, no decoding is kept.");
        CHECK.seenAlike("speak behind all else, and speak behind what was learnt alone", () -> {
            LabelLearner x = Made.busyWith("c ab");
            x.speak();
            return x;
        }, () -> {
            LabelLearner x = Made.loaded("a/B ab/C;b/D c/A a/C;z/D");
            x.learn(3);
            Made.typeAll(x, "c ab");
            x.speak();
            return x;
        });
    }

    private static void speakRefusesWhatIsNone() {
        CHECK.about("Promise 5: IllegalArgumentException when it is none.");
        String[] wrong = {"", " ", ";", "/", "A", "a/A", "a/A b/B", "a/", "a;b", "a;", "abcdefg", "a abcdefg",
            "z y x w v u t", "z y x w v u .", "z y x w v uA", "z y 1", "z,y", " ".repeat(240)};
        for (String text : wrong) {
            CHECK.throwsAndLeaves("speak of [" + text + "]", ARGUMENT, () -> Made.busyWith(text), LabelLearner::speak);
            CHECK.throwsAndLeaves("speak of [" + text + "], new", ARGUMENT, () -> Made.typed(text), LabelLearner::speak);
        }
    }
}
