/** For each promise of the document: ordinary inputs, the edges that it names, and wrong inputs. */
public final class PromisesTest {
    private static final Class<IndexOutOfBoundsException> INDEX = IndexOutOfBoundsException.class;
    private static final Class<IllegalArgumentException> ARGUMENT = IllegalArgumentException.class;
    private static final Class<IllegalStateException> STATE = IllegalStateException.class;

    private static final Check CHECK = new Check();

    public static void main(String[] args) {
        newObject();
        type();
        typeRefuses();
        cut();
        loadTakes();
        loadRefuses();
        loadStartsAnew();
        speakTakes();
        speakRefuses();
        speakStartsAnew();
        sentences();
        words();
        given();
        feature();
        learn();
        learnRefuses();
        learnStopsWithoutMistake();
        mistakesAndPasses();
        weightNumbers();
        weightOfPairs();
        weightOfOneBucketTwice();
        decode();
        decodeBreaksTies();
        decodeKeeps();
        label();
        score();
        errors();
        CHECK.end();
    }

    private static void newObject() {
        LabelLearner x = new LabelLearner();
        CHECK.same("NONE", LabelLearner.NONE, -1);
        CHECK.same("new: cut(1)", x.cut(1), false);
        CHECK.same("new: sentences()", x.sentences(), 0);
        CHECK.same("new: mistakes()", x.mistakes(), 0);
        CHECK.same("new: passes()", x.passes(), 0);
        CHECK.same("new: errors(false)", x.errors(false), 0);
        CHECK.same("new: errors(true)", x.errors(true), 0);
        CHECK.refused("new: words(0)", INDEX, () -> x.words(0));
        CHECK.refused("new: words(-1)", INDEX, () -> x.words(-1));
        CHECK.refused("new: label(0)", INDEX, () -> x.label(0));
        allWeightsAre0("new", x);
    }

    private static void allWeightsAre0(String when, LabelLearner x) {
        for (int a = 0; a < 37; a++) {
            for (int b = 0; b < 4; b++) {
                CHECK.same(when + ": weight(" + a + ", " + b + ", false)", x.weight(a, b, false), 0);
                CHECK.same(when + ": weight(" + a + ", " + b + ", true)", x.weight(a, b, true), 0);
            }
        }
    }

    private static void type() {
        LabelLearner x = new LabelLearner();
        CHECK.same("type ab, with more above", x.type(0x0900006261L, 2), true);
        CHECK.same("type cd", x.type(0x6463L, 2), true);
        CHECK.same("cut to 4", x.cut(4), true);
        CHECK.same("speak", x.speak(), 1);
        bucketIs("lowest byte first", x, -1, 0, 0, bucketOf("abcd"));
        for (int i = 0; i < 30; i++) {
            CHECK.same("type 8 more", x.type(Made.packed("~ ~ ~ ~ "), 8), true);
        }
        CHECK.same("type a 241st", x.type('a', 1), false);
        CHECK.same("cut to 240", x.cut(240), true);
        CHECK.same("cut to 233", x.cut(233), true);
        CHECK.same("type to 241", x.type(Made.packed("aaaaaaaa"), 8), false);
        CHECK.same("type to 240", x.type(Made.packed("aaaaaaa"), 7), true);
        CHECK.same("cut to 240 again", x.cut(240), true);
    }

    private static void typeRefuses() {
        LabelLearner x = new LabelLearner();
        int[] lengths = {0, -1, 9, 16, 241, Integer.MIN_VALUE, Integer.MAX_VALUE};
        for (int n : lengths) {
            CHECK.same("type n = " + n, x.type(Made.packed("aaaaaaaa"), n), false);
        }
        int[] codes = {0, 9, 10, 31, 127, 128, 160, 255};
        for (int code : codes) {
            CHECK.same("type code " + code, x.type(code, 1), false);
            CHECK.same("type code " + code + " last of 8", x.type((long) code << 56 | Made.packed("aaaaaaa"), 8), false);
            CHECK.same("nothing typed", x.cut(1), false);
        }
        CHECK.same("type 32", x.type(32, 1), true);
        CHECK.same("type 126", x.type(126, 1), true);
        CHECK.same("two typed", x.cut(2), true);
        CHECK.same("no third typed", x.cut(3), false);
    }

    private static void cut() {
        LabelLearner x = new LabelLearner();
        CHECK.same("cut 0 of 0", x.cut(0), true);
        Made.typeAll(x, "abcdef");
        CHECK.same("cut -1", x.cut(-1), false);
        CHECK.same("cut least", x.cut(Integer.MIN_VALUE), false);
        CHECK.same("cut 7 of 6", x.cut(7), false);
        CHECK.same("cut greatest", x.cut(Integer.MAX_VALUE), false);
        CHECK.same("cut 6 of 6", x.cut(6), true);
        CHECK.same("cut 2 of 6", x.cut(2), true);
        CHECK.same("cut 3 of 2", x.cut(3), false);
        Made.typeAll(x, "x");
        CHECK.same("speak", x.speak(), 1);
        bucketIs("the first ones are kept", x, -1, 0, 0, bucketOf("abx"));
    }

    private static void loadTakes() {
        loads("a/A", 1);
        loads("abcdef/D", 1);
        loads("   a/A   ", 1);
        loads("a/A   b/B c/C", 1);
        loads("a/A;b/B", 2);
        loads("  a/A ; b/B  ;c/C", 3);
        loads("a/A b/B c/C d/D e/A f/B", 1);
        loads("a/A;a/A;a/A;a/A;a/A;a/A;a/A;a/A", 8);
        loads("a/A b/B c/C d/D e/A f/B;".repeat(7) + "a/A b/B c/C d/D e/A f/B", 8);
        loads(" ".repeat(237) + "z/D", 1);
    }

    private static void loads(String text, int count) {
        LabelLearner x = new LabelLearner();
        Made.typeAll(x, text);
        CHECK.same("load of [" + text + "]", x.load(), count);
        CHECK.same("sentences of [" + text + "]", x.sentences(), count);
        CHECK.same("text left behind [" + text + "]", x.cut(1), false);
    }

    private static void loadRefuses() {
        String[] texts = {"", " ", ";", "a", "a/", "/A", "a/E", "a/@", "a/a", "A/A", "a/A;", ";a/A", "a/A;;b/B", "a/A; ;b/B",
            "a/Ab/B", "a /A", "a/ A", "a//A", "a/A/A", "a/AA", "abcdefg/A", "a/A b", "a b/B", "a/A,b/B", "a1/A", "a-b/A",
            "a/A b/A c/A d/A e/A f/A g/A", "a/A;a/A;a/A;a/A;a/A;a/A;a/A;a/A;a/A", "a/A;a/A;a/A;a/A;a/A;a/A;a/A;a/A;",
            "a/A;a/A;a/A;a/A;a/A;a/A;a/A;a/A x", "a/A b/A c/A d/A e/A f/A ;g/A h", "`/A", "{/A", " ".repeat(240)};
        for (String text : texts) {
            LabelLearner x = Made.loaded("a/B;ab/C b/A");
            x.learn(1);
            x.decode(1, false, false);
            Made.typeAll(x, text);
            CHECK.refused("load of [" + text + "]", ARGUMENT, x::load);
            CHECK.same("text stays [" + text + "]", x.cut(text.length()) && !x.cut(text.length() + 1), true);
            CHECK.same("corpus stays [" + text + "]", x.sentences() * 10 + x.words(1), 22);
            CHECK.same("label stays [" + text + "]", x.given(1, 0), 2);
            bucketIs("bucket stays [" + text + "]", x, 1, 0, 0, bucketOf("ab"));
            CHECK.same("passes stay [" + text + "]", x.passes(), 1);
            CHECK.same("decoding stays [" + text + "]", x.label(1), 0);
            CHECK.same("weight stays [" + text + "]", x.weight(26, 1, true) != 0, true);
        }
    }

    private static void loadStartsAnew() {
        LabelLearner x = Made.loaded("a/B b/C;b/D");
        Made.typeAll(x, "dog");
        x.speak();
        x.learn(3);
        x.decode(0, true, true);
        Made.typeAll(x, "b/D");
        CHECK.same("second load", x.load(), 1);
        CHECK.same("second load: sentences", x.sentences(), 1);
        CHECK.same("second load: given", x.given(0, 0), 3);
        CHECK.refused("second load: words(1)", INDEX, () -> x.words(1));
        CHECK.refused("second load: given(0, 1)", INDEX, () -> x.given(0, 1));
        CHECK.refused("second load: label(0)", INDEX, () -> x.label(0));
        CHECK.same("second load: mistakes", x.mistakes(), 0);
        CHECK.same("second load: passes", x.passes(), 0);
        CHECK.same("the speech outlives a load", x.words(-1), 1);
        allWeightsAre0("second load", x);
        Made.typeAll(x, "c/A");
        x.load();
        CHECK.same("no label is left from two loads ago", x.given(0, 0), 0);
    }

    private static void speakTakes() {
        speaks("a", 1);
        speaks("zzzzzz", 1);
        speaks("   a   ", 1);
        speaks("the old   man sees a dog", 6);
        speaks(" ".repeat(239) + "a", 1);
    }

    private static void speaks(String text, int count) {
        LabelLearner x = new LabelLearner();
        Made.typeAll(x, text);
        CHECK.same("speak of [" + text + "]", x.speak(), count);
        CHECK.same("words of [" + text + "]", x.words(-1), count);
        CHECK.same("no corpus from [" + text + "]", x.sentences(), 0);
        CHECK.same("text left behind [" + text + "]", x.cut(1), false);
    }

    private static void speakRefuses() {
        String[] texts = {"", " ", "a/A", "a;b", "a;", ";", "A", "abcdefg", "a bcdefgh", "a b c d e f g", "a.", "a-b", "a 1", "a/",
            "`", "{"};
        for (String text : texts) {
            LabelLearner x = Made.spoken("ab b");
            x.decode(-1, false, true);
            Made.typeAll(x, text);
            CHECK.refused("speak of [" + text + "]", ARGUMENT, x::speak);
            CHECK.same("text stays [" + text + "]", x.cut(text.length()) && !x.cut(text.length() + 1), true);
            CHECK.same("speech stays [" + text + "]", x.words(-1), 2);
            bucketIs("bucket stays [" + text + "]", x, -1, 0, 0, bucketOf("ab"));
            CHECK.same("decoding stays [" + text + "]", x.label(1), 1);
        }
    }

    private static void speakStartsAnew() {
        LabelLearner x = Made.loaded("a/B");
        x.learn(1);
        Made.typeAll(x, "a b c");
        x.speak();
        x.decode(-1, false, false);
        Made.typeAll(x, "b");
        CHECK.same("second speak", x.speak(), 1);
        CHECK.same("second speak: words", x.words(-1), 1);
        bucketIs("second speak", x, -1, 0, 0, bucketOf("b"));
        CHECK.refused("second speak: feature(-1, 1, 0)", INDEX, () -> x.feature(-1, 1, 0));
        CHECK.refused("second speak: label(0)", INDEX, () -> x.label(0));
        CHECK.same("second speak: weights stay", x.weight(32, 1, false), 1);
        CHECK.same("second speak: totals stay", x.weight(32, 1, true), 1);
        CHECK.same("second speak: passes stay", x.passes(), 1);
        CHECK.same("second speak: mistakes stay", x.mistakes(), 1);
        CHECK.same("second speak: corpus stays", x.sentences(), 1);
    }

    private static void sentences() {
        CHECK.same("sentences of three", Made.loaded("a/A;b/B;c/C").sentences(), 3);
        CHECK.same("sentences of a speech", Made.spoken("a b").sentences(), 0);
    }

    private static void words() {
        LabelLearner x = Made.loaded("a/A b/B c/C;d/D");
        CHECK.same("words(0)", x.words(0), 3);
        CHECK.same("words(1)", x.words(1), 1);
        int[] none = {-1, -2, 2, 8, Integer.MIN_VALUE, Integer.MAX_VALUE};
        for (int sentence : none) {
            CHECK.refused("words(" + sentence + ")", INDEX, () -> x.words(sentence));
        }
        Made.typeAll(x, "a b");
        x.speak();
        CHECK.same("words(-1)", x.words(-1), 2);
        CHECK.refused("words(-2) with a speech", INDEX, () -> x.words(-2));
    }

    private static void given() {
        LabelLearner x = Made.loaded("a/D b/C c/B d/A e/D f/C;g/B");
        int[] due = {3, 2, 1, 0, 3, 2};
        for (int word = 0; word < due.length; word++) {
            CHECK.same("given(0, " + word + ")", x.given(0, word), due[word]);
        }
        CHECK.same("given(1, 0)", x.given(1, 0), 1);
        Made.typeAll(x, "a b");
        x.speak();
        int[][] none = {{0, 6}, {0, -1}, {1, 1}, {2, 0}, {-1, 0}, {-2, 0}, {0, Integer.MAX_VALUE}, {Integer.MIN_VALUE, 0}};
        for (int[] at : none) {
            CHECK.refused("given(" + at[0] + ", " + at[1] + ")", INDEX, () -> x.given(at[0], at[1]));
        }
    }

    private static void feature() {
        LabelLearner x = Made.loaded("a/A zzzzzz/B ab/C;dog/D");
        int[][] due = {{0, 0, 0, 26}, {0, 0, 1, 27}, {0, 0, 2, 21}, {0, 1, 0, 17}, {0, 1, 1, 1}, {0, 1, 2, 12}, {0, 2, 0, 8},
            {0, 2, 1, 0}, {0, 2, 2, 14}, {1, 0, 0, 28}, {1, 0, 1, 25}, {1, 0, 2, 21}};
        for (int[] at : due) {
            bucketIs("corpus", x, at[0], at[1], at[2], at[3]);
        }
        CHECK.refused("no speech", INDEX, () -> x.feature(-1, 0, 0));
        Made.typeAll(x, "ab  a");
        x.speak();
        bucketIs("speech", x, -1, 1, 2, 30);
        int[][] none = {{0, 0, 3}, {0, 0, -1}, {0, 3, 0}, {0, -1, 0}, {1, 1, 0}, {2, 0, 0}, {-2, 0, 0}, {-1, 2, 0}, {-1, 0, 3},
            {0, 0, Integer.MAX_VALUE}, {0, Integer.MIN_VALUE, 0}};
        for (int[] at : none) {
            CHECK.refused("feature(" + at[0] + ", " + at[1] + ", " + at[2] + ")", INDEX, () -> x.feature(at[0], at[1], at[2]));
        }
    }

    private static void learn() {
        LabelLearner x = Made.loaded("a/B");
        CHECK.same("learn(1)", x.learn(1), 1);
        int[] rows = {26, 27, 21, 32};
        for (int row : rows) {
            weightsAre("after a mistake", x, row, false, -1, 1, 0, 0);
            weightsAre("after a mistake", x, row, true, -1, 1, 0, 0);
        }
        CHECK.same("learn(1) again", x.learn(1), 0);
        for (int row : rows) {
            weightsAre("after no mistake", x, row, false, -1, 1, 0, 0);
            weightsAre("after no mistake", x, row, true, -2, 2, 0, 0);
        }
        weightsAre("no pair in one word", x, 33, false, 0, 0, 0, 0);
        CHECK.same("a second sentence learns after the first", Made.loaded("a/B;a/B").learn(1), 1);
    }

    private static void learnRefuses() {
        LabelLearner x = Made.spoken("a b");
        int[] wrong = {0, 7, -1, Integer.MIN_VALUE, Integer.MAX_VALUE};
        for (int passes : wrong) {
            CHECK.refused("learn(" + passes + ") without a corpus", ARGUMENT, () -> x.learn(passes));
        }
        CHECK.refused("learn(1) without a corpus", STATE, () -> x.learn(1));
        CHECK.refused("learn(6) without a corpus", STATE, () -> x.learn(6));
        CHECK.same("no pass without a corpus", x.passes(), 0);
        LabelLearner y = Made.loaded("a/B");
        for (int passes : wrong) {
            CHECK.refused("learn(" + passes + ")", ARGUMENT, () -> y.learn(passes));
        }
        CHECK.same("no pass by a wrong call", y.passes(), 0);
        allWeightsAre0("no weight by a wrong call", y);
    }

    private static void learnStopsWithoutMistake() {
        LabelLearner x = Made.loaded("a/B");
        CHECK.same("learn(6)", x.learn(6), 0);
        CHECK.same("it stops behind the pass without mistake", x.passes(), 2);
        CHECK.same("totals of two sentences learnt", x.weight(26, 1, true), 2);
        CHECK.same("learn(6) again", x.learn(6), 0);
        CHECK.same("one pass more", x.passes(), 3);
        LabelLearner y = Made.loaded("a/A;a/B");
        CHECK.same("what can't be learnt", y.learn(6), 2);
        CHECK.same("all six passes", y.passes(), 6);
    }

    private static void mistakesAndPasses() {
        LabelLearner x = Made.loaded("a/A;a/B");
        x.learn(1);
        CHECK.same("mistakes of one pass", x.mistakes(), 1);
        CHECK.same("passes, one", x.passes(), 1);
        x.learn(2);
        CHECK.same("mistakes of three passes", x.mistakes(), 5);
        CHECK.same("passes, three", x.passes(), 3);
        x.decode(0, false, false);
        x.errors(false);
        CHECK.same("to decode is no mistake", x.mistakes(), 5);
        CHECK.same("to decode is no pass", x.passes(), 3);
    }

    private static void weightNumbers() {
        LabelLearner x = Made.loaded("a/B");
        int[][] none = {{-1, 0}, {37, 0}, {0, -1}, {0, 4}, {36, 4}, {32, -1}, {37, -1}, {Integer.MIN_VALUE, 0},
            {Integer.MAX_VALUE, 3}, {9, Integer.MAX_VALUE}, {1 << 30, 0}};
        for (int[] at : none) {
            CHECK.refused("weight(" + at[0] + ", " + at[1] + ", false)", INDEX, () -> x.weight(at[0], at[1], false));
            CHECK.refused("weight(" + at[0] + ", " + at[1] + ", true)", INDEX, () -> x.weight(at[0], at[1], true));
        }
        CHECK.same("the last weight", x.weight(36, 3, true), 0);
    }

    private static void weightOfPairs() {
        LabelLearner x = Made.loaded("a/B b/D c/B");
        CHECK.same("one mistake", x.learn(1), 1);
        weightsAre("first", x, 32, false, -1, 1, 0, 0);
        weightsAre("behind A", x, 33, false, -2, 0, 0, 0);
        weightsAre("behind B", x, 34, false, 0, 0, 0, 1);
        weightsAre("behind C", x, 35, false, 0, 0, 0, 0);
        weightsAre("behind D", x, 36, false, 0, 1, 0, 0);
    }

    private static void weightOfOneBucketTwice() {
        LabelLearner x = Made.loaded("af/C");
        CHECK.same("af has one bucket twice", x.feature(0, 0, 0), x.feature(0, 0, 1));
        x.learn(1);
        weightsAre("a bucket that a word has twice", x, x.feature(0, 0, 0), false, -2, 0, 2, 0);
        CHECK.same("its score", x.score(0, 2, false), 2 + 2 + 1 + 1);
    }

    private static void decode() {
        LabelLearner x = Made.loaded("a/B");
        CHECK.refused("no speech", INDEX, () -> x.decode(-1, false, false));
        CHECK.refused("decode(1)", INDEX, () -> x.decode(1, false, false));
        CHECK.refused("decode(-2)", INDEX, () -> x.decode(-2, true, true));
        x.learn(6);
        decodes("best", x, 0, false, false, 4, 1);
        decodes("second", x, 0, false, true, 0, 2);
        decodes("best by totals", x, 0, true, false, 8, 1);
        decodes("second by totals", x, 0, true, true, 0, 2);
        Made.typeAll(x, "a b");
        x.speak();
        decodes("speech", x, -1, false, false, 5, 1, 1);
        decodes("speech, second", x, -1, false, true, 4, 1, 2);
        LabelLearner y = Made.loaded("a/B b/C");
        y.learn(1);
        CHECK.same("C behind B, not B behind C", y.decode(0, false, false), y.score(0, 1 | 2 << 2, false));
    }

    private static void decodeBreaksTies() {
        LabelLearner x = Made.loaded("a/B b/C c/D d/A e/B f/C;a/A");
        decodes("all 0, best", x, 0, false, false, 0, 0, 0, 0, 0, 0, 0);
        decodes("all 0, second", x, 0, false, true, 0, 0, 0, 0, 0, 0, 1);
        decodes("all 0, one word, best", x, 1, false, false, 0, 0);
        decodes("all 0, one word, second", x, 1, true, true, 0, 1);
    }

    private static void decodeKeeps() {
        LabelLearner x = Made.loaded("a/B;b/C a/B");
        x.learn(6);
        x.decode(0, false, false);
        x.errors(false);
        x.score(1, 5, false);
        Made.typeAll(x, "x");
        x.learn(6);
        CHECK.refused("a wrong decode", INDEX, () -> x.decode(2, false, false));
        CHECK.same("the latest one is kept", x.label(0), 1);
        CHECK.refused("and has one word", INDEX, () -> x.label(1));
        x.decode(1, false, false);
        CHECK.same("then the later one", x.label(0) * 10 + x.label(1), 21);
        LabelLearner y = Made.loaded("a/B");
        y.decode(0, false, false);
        y.learn(6);
        CHECK.same("to learn leaves the labels that were found", y.label(0), 0);
    }

    private static void label() {
        LabelLearner x = Made.loaded("a/B c/D");
        CHECK.refused("nothing decoded", INDEX, () -> x.label(0));
        x.learn(6);
        CHECK.refused("nothing decoded by decode", INDEX, () -> x.label(0));
        x.decode(0, false, false);
        CHECK.same("label(0)", x.label(0), 1);
        CHECK.same("label(1)", x.label(1), 3);
        int[] none = {2, 6, -1, Integer.MIN_VALUE, Integer.MAX_VALUE};
        for (int word : none) {
            CHECK.refused("label(" + word + ")", INDEX, () -> x.label(word));
        }
    }

    private static void score() {
        LabelLearner x = Made.loaded("a/B;b/A c/A");
        CHECK.refused("no speech", INDEX, () -> x.score(-1, 0, false));
        CHECK.refused("score(2)", INDEX, () -> x.score(2, 0, false));
        CHECK.refused("score(-2)", INDEX, () -> x.score(-2, 0, true));
        LabelLearner y = Made.loaded("a/B");
        y.learn(6);
        CHECK.same("score of B", y.score(0, 1, false), 4);
        CHECK.same("score of A", y.score(0, 0, false), -4);
        CHECK.same("score of C", y.score(0, 2, false), 0);
        CHECK.same("score of B by totals", y.score(0, 1, true), 8);
        CHECK.same("what is above", y.score(0, 0xfffffff1, false), 4);
        LabelLearner z = Made.loaded("a/B b/D c/B");
        z.learn(1);
        CHECK.same("score of a pair", z.score(0, 1 | 3 << 2 | 1 << 4, false), z.decode(0, false, false));
        CHECK.same("the sum of all weights of BDB", z.decode(0, false, false),
            3 + 3 + 3 + 1 + 2 + overlaps(z));
        CHECK.same("all labels of six words", Made.spoken("a b c d e f").score(-1, -1, true), 0);
    }

    /** What the words with label B lend one another by buckets that they share, after BDB was learnt against AAA. */
    private static int overlaps(LabelLearner x) {
        int shared = 0;
        int[] alike = {0, 2};
        for (int one : alike) {
            for (int other : alike) {
                for (int k = 0; k < 9; k++) {
                    boolean same = x.feature(0, one, k / 3) == x.feature(0, other, k % 3);
                    boolean itself = one == other && k / 3 == k % 3;
                    shared += same && !itself ? 1 : 0;
                }
            }
        }
        return shared;
    }

    private static void errors() {
        LabelLearner x = Made.loaded("a/B b/A c/D;d/A;e/C");
        CHECK.same("errors before", x.errors(false), 3);
        CHECK.same("errors before, by totals", x.errors(true), 3);
        x.learn(6);
        CHECK.same("errors behind a pass without mistake", x.learn(6) == 0 ? x.errors(false) : 0, 0);
        LabelLearner y = Made.loaded("a/B;a/A");
        y.learn(1);
        CHECK.same("errors by weights that are 0 again", y.errors(false), 1);
        CHECK.same("errors by totals", y.errors(true), 1);
        CHECK.same("weights are 0 again", y.weight(26, 1, false), 0);
        CHECK.same("totals are not", y.weight(26, 1, true), 1);
        y.decode(0, true, false);
        CHECK.same("B by totals", y.label(0), 1);
        y.decode(0, false, false);
        CHECK.same("A by weights", y.label(0), 0);
    }

    private static void weightsAre(String when, LabelLearner x, int row, boolean total, long... due) {
        for (int b = 0; b < 4; b++) {
            CHECK.same(when + ": weight(" + row + ", " + b + ", " + total + ")", x.weight(row, b, total), due[b]);
        }
    }

    private static void decodes(String what, LabelLearner x, int sentence, boolean totals, boolean second, long score,
            int... labels) {
        CHECK.same(what + ": score", x.decode(sentence, totals, second), score);
        for (int word = 0; word < labels.length; word++) {
            CHECK.same(what + ": label(" + word + ")", x.label(word), labels[word]);
        }
        CHECK.refused(what + ": no more labels", INDEX, () -> x.label(labels.length));
    }

    private static void bucketIs(String what, LabelLearner x, int sentence, int word, int k, int due) {
        CHECK.same(what + ": feature(" + sentence + ", " + word + ", " + k + ")", x.feature(sentence, word, k), due);
    }

    private static int bucketOf(String characters) {
        int h = 7;
        for (char c : characters.toCharArray()) {
            h = 31 * h + c;
        }
        return (h ^ (h >>> 15)) & 31;
    }
}
