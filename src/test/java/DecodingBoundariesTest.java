/**
 * The boundary cases that promises 14 to 17 name (decode, label, score, errors), sentence by sentence, each on both
 * sides of its boundary; behind a refused call all that can be seen is as if the call had not been made.
 */
public final class DecodingBoundariesTest {
    private static final Class<IndexOutOfBoundsException> INDEX = IndexOutOfBoundsException.class;

    private static final int LEAST = Integer.MIN_VALUE;
    private static final int GREATEST = Integer.MAX_VALUE;
    private static final boolean[] BOTH = {false, true};

    private static final Check CHECK = new Check();

    public static void main(String[] args) {
        decodeShortestAndLongest();
        decodeByTotals();
        decodeRefusesOtherSentences();
        labelOfKept();
        labelRefusesWhenNoneIsKept();
        labelRefusesOtherWords();
        scoreBits();
        scoreLooksNotAbove();
        scoreRefusesOtherSentences();
        errorsNoneAndAll();
        errorsByTotals();
        questionsChangeNothing();
        CHECK.end();
    }

    private static void decodeShortestAndLongest() {
        CHECK.about("Promise 14: finds its best labelling, or its second one, and keeps it: its score");
        LabelLearner x = Made.loaded("a/D;a/D b/B c/C d/A e/B f/D");
        x.learn(6);
        decodesTo("one word", x, 0, false, false, "D");
        decodesTo("six words", x, 1, false, false, "DBCABD");
        LabelLearner y = Made.loaded("a/D");
        y.learn(1);
        CHECK.same("D", y.decode(0, false, false), 4);
        CHECK.same("the second", y.decode(0, false, true), 0);
        decodesTo("the second of D B C A", y, 0, false, true, "B");
        Made.typeAll(y, "a a a a a a");
        y.speak();
        decodesTo("the best of six words", y, -1, false, false, "DDDDDD");
        decodesTo("the second of six words", y, -1, false, true, "DBDDDD");
    }

    /** The score that decode answers is that of the labels that it keeps. */
    private static void decodesTo(String what, LabelLearner x, int sentence, boolean totals, boolean second,
            String labels) {
        long score = x.decode(sentence, totals, second);
        int packed = 0;
        StringBuilder found = new StringBuilder();
        for (int word = 0; word < labels.length(); word++) {
            packed |= x.label(word) << 2 * word;
            found.append((char) ('A' + x.label(word)));
        }
        CHECK.same(what + ": labels", found.toString(), labels);
        CHECK.same(what + ": score", score, x.score(sentence, packed, totals));
        CHECK.refused(what + ": no more labels", INDEX, () -> x.label(labels.length()));
    }

    private static void decodeByTotals() {
        CHECK.about("Promise 14: Decodes a sentence by the weights, or by their totals in their place");
        LabelLearner x = Made.loaded("a/B;a/A");
        x.learn(1);
        decodesTo("by the weights, which are 0 again", x, 0, false, false, "A");
        decodesTo("second, by the weights", x, 0, false, true, "B");
        decodesTo("by the totals, which are not", x, 0, true, false, "B");
        decodesTo("second, by the totals", x, 0, true, true, "C");
    }

    private static void decodeRefusesOtherSentences() {
        CHECK.about("Promise 14: IndexOutOfBoundsException when there is no such sentence.");
        for (boolean totals : BOTH) {
            for (boolean second : BOTH) {
                for (int sentence : Made.noSentences()) {
                    String call = "decode(" + sentence + ", " + totals + ", " + second + ")";
                    CHECK.throwsAndLeaves(call, INDEX, Made::busy, x -> x.decode(sentence, totals, second));
                }
                CHECK.throwsAndLeaves("no corpus", INDEX, () -> Made.spokenAndDecoded("a b"),
                    x -> x.decode(0, totals, second));
                CHECK.throwsAndLeaves("no speech", INDEX, () -> Made.loaded("a/B"), x -> x.decode(-1, totals, second));
                CHECK.throwsAndLeaves("nothing", INDEX, LabelLearner::new, x -> x.decode(-1, totals, second));
                CHECK.throwsAndLeaves("the sentence 8 of 8", INDEX, Made::eight, x -> x.decode(8, totals, second));
                CHECK.same("the last sentence", Made.eight().decode(7, totals, second), 0);
                CHECK.same("the speech", Made.eight().decode(-1, totals, second), 0);
            }
        }
    }

    private static void labelOfKept() {
        CHECK.about("Promise 15: The label of a word in the decoding that is kept.");
        LabelLearner x = Made.loaded("a/D b/B c/C d/A e/B f/D;g/C");
        x.learn(6);
        x.decode(0, false, false);
        int[] due = {3, 1, 2, 0, 1, 3};
        for (int word = 0; word < 6; word++) {
            CHECK.same("label(" + word + ")", x.label(word), due[word]);
        }
        x.decode(1, false, false);
        CHECK.same("label(0) of the later one", x.label(0), 2);
        CHECK.refused("label(1) of the later one", INDEX, () -> x.label(1));
    }

    private static void labelRefusesWhenNoneIsKept() {
        CHECK.about("Promise 15: IndexOutOfBoundsException when there is none");
        for (int word = -1; word < 7; word++) {
            int at = word;
            CHECK.throwsAndLeaves("new", INDEX, LabelLearner::new, x -> x.label(at));
            CHECK.throwsAndLeaves("behind speak", INDEX, () -> Made.spoken("a b c d e f"), x -> x.label(at));
            CHECK.throwsAndLeaves("behind load", INDEX, Made::eight, x -> x.label(at));
            CHECK.throwsAndLeaves("behind learn and errors", INDEX, DecodingBoundariesTest::learntOnly, x -> x.label(at));
        }
    }

    private static LabelLearner learntOnly() {
        LabelLearner x = Made.eight();
        x.learn(2);
        x.errors(false);
        return x;
    }

    private static void labelRefusesOtherWords() {
        CHECK.about("Promise 15: IndexOutOfBoundsException when there is ... no such word in it.");
        for (int size = 1; size <= 6; size++) {
            String speech = "a b c d e f".substring(0, 2 * size - 1);
            CHECK.same("the first of " + size, Made.spokenAndDecoded(speech).label(0), size == 1 ? 1 : 0);
            CHECK.same("the last of " + size, Made.spokenAndDecoded(speech).label(size - 1), 1);
            int[] wrong = {size, -1, size + 1, 6, 16, 32, LEAST, GREATEST};
            for (int word : wrong) {
                CHECK.throwsAndLeaves("label(" + word + ") of " + size, INDEX, () -> Made.spokenAndDecoded(speech),
                    x -> x.label(word));
            }
        }
        CHECK.throwsAndLeaves("label(3) of the busy one", INDEX, Made::busy, x -> x.label(3));
    }

    private static void scoreBits() {
        CHECK.about("Promise 16: the label of word i is bits 2 i and 2 i + 1 of labels");
        LabelLearner x = Made.loaded("a/B b/C c/D d/B e/C f/D");
        x.learn(6);
        CHECK.same("the labels of the corpus", x.score(0, 0b111001111001, false), x.decode(0, false, false));
        CHECK.same("by totals", x.score(0, 0b111001111001, true), x.decode(0, true, false));
        for (int bit = 0; bit < 12; bit++) {
            long other = x.score(0, 0b111001111001 ^ 1 << bit, false);
            CHECK.same("bit " + bit + " is looked at", other < x.score(0, 0b111001111001, false), true);
        }
    }

    private static void scoreLooksNotAbove() {
        CHECK.about("Promise 16: (what is above is not looked at)");
        LabelLearner x = Made.busy();
        int[][] sizes = {{-1, 2}, {0, 2}, {1, 3}, {2, 1}};
        for (int[] size : sizes) {
            for (int bit = 2 * size[1]; bit < 32; bit++) {
                long got = x.score(size[0], 1 | 1 << bit, false);
                CHECK.same("bit " + bit + ", sentence " + size[0], got, x.score(size[0], 1, false));
            }
        }
        LabelLearner y = Made.eight();
        y.learn(2);
        for (int bit = 12; bit < 32; bit++) {
            CHECK.same("bit " + bit + ", six words", y.score(7, 0xfff | 1 << bit, true), y.score(7, 0xfff, true));
        }
        CHECK.same("all bits", y.score(7, -1, true), y.score(7, 0xfff, true));
        CHECK.same("the least int", y.score(7, LEAST, true), y.score(7, 0, true));
    }

    private static void scoreRefusesOtherSentences() {
        CHECK.about("Promise 16: IndexOutOfBoundsException when there is no such sentence.");
        for (boolean totals : BOTH) {
            for (int sentence : Made.noSentences()) {
                CHECK.throwsAndLeaves("score(" + sentence + ", 1, " + totals + ")", INDEX, Made::busy,
                    x -> x.score(sentence, 1, totals));
            }
            CHECK.throwsAndLeaves("no corpus", INDEX, () -> Made.spoken("a"), x -> x.score(0, 0, totals));
            CHECK.throwsAndLeaves("no speech", INDEX, () -> Made.loaded("a/A"), x -> x.score(-1, 0, totals));
            CHECK.throwsAndLeaves("nothing", INDEX, LabelLearner::new, x -> x.score(-1, 0, totals));
            CHECK.throwsAndLeaves("the sentence 8 of 8", INDEX, Made::eight, x -> x.score(8, 0, totals));
            CHECK.same("the last sentence", Made.eight().score(7, 0, totals), 0);
            CHECK.same("the speech", Made.eight().score(-1, 0, totals), 0);
        }
    }

    private static void errorsNoneAndAll() {
        CHECK.about("Promise 17: How many words of the corpus have another label in the best labellings of their sentences "
            + "than in the corpus");
        for (boolean totals : BOTH) {
            CHECK.same("no corpus", new LabelLearner().errors(totals), 0);
            CHECK.same("no corpus, a speech", Made.spoken("a b").errors(totals), 0);
            CHECK.same("all 48", Made.eight().errors(totals), 48);
            CHECK.same("none", Made.loaded("a/A b/A;c/A").errors(totals), 0);
            CHECK.same("words, not sentences", Made.loaded("a/A b/B c/C;d/A e/A f/D").errors(totals), 3);
        }
        LabelLearner x = Made.loaded("a/B b/C;c/D");
        CHECK.same("learnt without a mistake", x.learn(6), 0);
        CHECK.same("none behind it", x.errors(false), 0);
    }

    private static void errorsByTotals() {
        CHECK.about("Promise 17: by the weights or their totals");
        LabelLearner x = Made.loaded("a/B;a/A;a/A");
        x.learn(1);
        CHECK.same("by the weights, which are 0 again: A thrice", x.errors(false), 1);
        CHECK.same("by the totals: B thrice", x.errors(true), 2);
    }

    private static void questionsChangeNothing() {
        CHECK.about("Nothing is promised beyond the answers and state changes described above");
        CHECK.leaves("sentences", Made::busy, LabelLearner::sentences);
        CHECK.leaves("words", Made::busy, x -> x.words(-1));
        CHECK.leaves("given", Made::busy, x -> x.given(0, 1));
        CHECK.leaves("feature", Made::busy, x -> x.feature(1, 2, 2));
        CHECK.leaves("mistakes", Made::busy, LabelLearner::mistakes);
        CHECK.leaves("passes", Made::busy, LabelLearner::passes);
        CHECK.leaves("label", Made::busy, x -> x.label(0));
        for (boolean totals : BOTH) {
            CHECK.leaves("weight", Made::busy, x -> x.weight(26, 1, totals));
            CHECK.leaves("score", Made::busy, x -> x.score(1, 9, totals));
            CHECK.leaves("errors", Made::busy, x -> x.errors(totals));
        }
        CHECK.leaves("cut to all", Made::busy, x -> x.cut(6));
    }
}
