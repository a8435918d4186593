/**
 * The boundary cases that promises 6 to 9 name (sentences, words, given, feature), sentence by sentence, each on both
 * sides of its boundary; behind a refused call all that can be seen is as if the call had not been made.
 */
public final class SentenceBoundariesTest {
    private static final Class<IndexOutOfBoundsException> INDEX = IndexOutOfBoundsException.class;

    private static final int LEAST = Integer.MIN_VALUE;
    private static final int GREATEST = Integer.MAX_VALUE;

    private static final Check CHECK = new Check();

    public static void main(String[] args) {
        sentences();
        words();
        wordsRefusesOtherSentences();
        given();
        givenRefusesOtherWords();
        feature();
        featureRefusesOthers();
        CHECK.end();
    }

    private static void sentences() {
        CHECK.about("Promise 6: How many sentences the corpus has.");
        CHECK.same("no corpus", new LabelLearner().sentences(), 0);
        CHECK.same("no corpus, a speech", Made.spoken("a").sentences(), 0);
        CHECK.same("no corpus, a text", Made.typed("a/A;b/B").sentences(), 0);
        for (int count = 1; count <= 8; count++) {
            CHECK.same(count + " sentences", Made.loaded("a/A b/B" + ";a/A".repeat(count - 1)).sentences(), count);
        }
        LabelLearner x = Made.loaded("a/A;a/A;a/A;a/A;a/A;a/A;a/A;a/A");
        Made.typeAll(x, "b/B");
        x.load();
        CHECK.same("fewer than before", x.sentences(), 1);
    }

    private static void words() {
        CHECK.about("Promise 7: How many words a sentence has (-1: the speech).");
        LabelLearner x = Made.loaded("a/A;a/A b/B;a/A b/B c/C;a/A b/B c/C d/D;a/A b/B c/C d/D e/A;"
            + "a/A b/B c/C d/D e/A f/B;a/A;b/A c/B");
        int[] due = {1, 2, 3, 4, 5, 6, 1, 2};
        for (int sentence = 0; sentence < 8; sentence++) {
            CHECK.same("words(" + sentence + ")", x.words(sentence), due[sentence]);
        }
        CHECK.refused("no speech yet", INDEX, () -> x.words(-1));
        Made.typeAll(x, "a b c");
        CHECK.refused("a text is no speech yet", INDEX, () -> x.words(-1));
        x.speak();
        CHECK.same("words(-1)", x.words(-1), 3);
    }

    private static void wordsRefusesOtherSentences() {
        CHECK.about("Promise 7: IndexOutOfBoundsException when there is no such sentence.");
        for (int sentence : Made.noSentences()) {
            CHECK.throwsAndLeaves("words(" + sentence + ")", INDEX, Made::busy, x -> x.words(sentence));
        }
        for (int sentence = -2; sentence < 2; sentence++) {
            int at = sentence;
            CHECK.throwsAndLeaves("words(" + sentence + "), new", INDEX, LabelLearner::new, x -> x.words(at));
        }
        CHECK.throwsAndLeaves("words(0), a speech alone", INDEX, () -> Made.spoken("a"), x -> x.words(0));
        CHECK.throwsAndLeaves("words(-1), a corpus alone", INDEX, () -> Made.loaded("a/A"), x -> x.words(-1));
        CHECK.throwsAndLeaves("words(8) of 8", INDEX, Made::eight, x -> x.words(8));
    }

    private static void given() {
        CHECK.about("Promise 8: The label of a word in the corpus.");
        LabelLearner x = Made.eight();
        int[] due = {1, 2, 3, 1, 2, 3};
        for (int at = 0; at < 48; at++) {
            CHECK.same("given(" + at / 6 + ", " + at % 6 + ")", x.given(at / 6, at % 6), due[at % 6]);
        }
        x.learn(6);
        x.decode(0, false, true);
        CHECK.same("not the label found", x.given(0, 5), 3);
    }

    private static void givenRefusesOtherWords() {
        CHECK.about("Promise 8: IndexOutOfBoundsException when there is no such word in it.");
        int[][] sizes = {{0, 2}, {1, 3}, {2, 1}};
        for (int[] size : sizes) {
            CHECK.same("the last word of " + size[0], Made.busy().given(size[0], size[1] - 1) >= 0, true);
            int[] wrong = {size[1], -1, size[1] + 1, 6, 16, LEAST, GREATEST};
            for (int word : wrong) {
                CHECK.throwsAndLeaves("given(" + size[0] + ", " + word + ")", INDEX, Made::busy,
                    x -> x.given(size[0], word));
            }
        }
        for (int sentence : Made.noSentences()) {
            CHECK.throwsAndLeaves("given(" + sentence + ", 0)", INDEX, Made::busy, x -> x.given(sentence, 0));
        }
        CHECK.throwsAndLeaves("the speech is not in it", INDEX, Made::busy, x -> x.given(-1, 0));
        CHECK.throwsAndLeaves("no corpus", INDEX, LabelLearner::new, x -> x.given(0, 0));
        CHECK.throwsAndLeaves("the word 6 of 6", INDEX, Made::eight, x -> x.given(7, 6));
        CHECK.throwsAndLeaves("the sentence 8 of 8", INDEX, Made::eight, x -> x.given(8, 0));
    }

    private static void feature() {
        CHECK.about("Promise 9: A feature of a word.");
        LabelLearner x = Made.busy();
        int[][] due = {{-1, 0, 0, 28}, {-1, 0, 1, 25}, {-1, 0, 2, 21}, {-1, 1, 0, 26}, {-1, 1, 1, 27}, {0, 0, 0, 26},
            {0, 0, 1, 27}, {0, 0, 2, 21}, {0, 1, 0, 8}, {0, 1, 1, 0}, {0, 1, 2, 12}, {2, 0, 0, 19}, {2, 0, 1, 20},
            {2, 0, 2, 21}};
        for (int[] at : due) {
            CHECK.same("feature(" + at[0] + ", " + at[1] + ", " + at[2] + ")", x.feature(at[0], at[1], at[2]), at[3]);
        }
        LabelLearner y = Made.eight();
        CHECK.same("the last word of the last sentence", y.feature(7, 5, 0), 31);
        CHECK.same("the last word of the speech", y.feature(-1, 5, 0), 31);
    }

    private static void featureRefusesOthers() {
        CHECK.about("Promise 9: IndexOutOfBoundsException when there is no such sentence, word or feature.");
        for (int sentence : Made.noSentences()) {
            CHECK.throwsAndLeaves("feature(" + sentence + ", 0, 0)", INDEX, Made::busy,
                x -> x.feature(sentence, 0, 0));
        }
        int[][] sizes = {{-1, 2}, {0, 2}, {1, 3}, {2, 1}};
        for (int[] size : sizes) {
            int[] words = {size[1], -1, size[1] + 1, 6, LEAST, GREATEST};
            for (int word : words) {
                CHECK.throwsAndLeaves("feature(" + size[0] + ", " + word + ", 0)", INDEX, Made::busy,
                    x -> x.feature(size[0], word, 0));
            }
            int[] kinds = {3, -1, 4, LEAST, GREATEST};
            for (int k : kinds) {
                CHECK.throwsAndLeaves("feature(" + size[0] + ", 0, " + k + ")", INDEX, Made::busy,
                    x -> x.feature(size[0], 0, k));
            }
        }
        CHECK.throwsAndLeaves("no speech", INDEX, () -> Made.loaded("a/A"), x -> x.feature(-1, 0, 0));
        CHECK.throwsAndLeaves("no corpus", INDEX, () -> Made.spoken("a"), x -> x.feature(0, 0, 0));
        CHECK.throwsAndLeaves("nothing", INDEX, LabelLearner::new, x -> x.feature(-1, 0, 0));
        CHECK.throwsAndLeaves("the word 6 of 6", INDEX, Made::eight, x -> x.feature(7, 6, 0));
        CHECK.throwsAndLeaves("the sentence 8 of 8", INDEX, Made::eight, x -> x.feature(8, 0, 0));
    }
}
