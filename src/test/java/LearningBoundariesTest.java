/**
 * The boundary cases that promises 10 to 13 name (learn, mistakes, passes, weight), sentence by sentence, each on both
 * sides of its boundary; behind a refused call all that can be seen is as if the call had not been made.
 */
public final class LearningBoundariesTest {
    private static final Class<IndexOutOfBoundsException> INDEX = IndexOutOfBoundsException.class;
    private static final Class<IllegalArgumentException> ARGUMENT = IllegalArgumentException.class;
    private static final Class<IllegalStateException> STATE = IllegalStateException.class;

    private static final int LEAST = Integer.MIN_VALUE;
    private static final int GREATEST = Integer.MAX_VALUE;
    private static final boolean[] BOTH = {false, true};

    private static final Check CHECK = new Check();

    public static void main(String[] args) {
        learnAnswersLastPass();
        learnStopsOnceThereWasNoMistake();
        learnRefusesOtherNumbers();
        learnRefusesWithoutCorpus();
        mistakesSinceLoad();
        passesSinceLoad();
        weightRows();
        weightRefusesOthers();
        CHECK.end();
    }

    private static void learnAnswersLastPass() {
        CHECK.about("Promise 10: how many mistakes the last one had");
        int[] due = {1, 2, 2, 2, 2, 2};
        for (int passes = 1; passes <= 6; passes++) {
            CHECK.same("learn(" + passes + ")", Made.loaded("a/A;a/B").learn(passes), due[passes - 1]);
        }
        CHECK.same("no mistake", Made.loaded("a/A;b/A").learn(1), 0);
        CHECK.same("a mistake in each of eight", Made.loaded("a/B;a/A;a/B;a/A;a/B;a/A;a/B;a/A").learn(1), 8);
    }

    private static void learnStopsOnceThereWasNoMistake() {
        CHECK.about("Promise 10: So many PASSES, but no more once one had no mistake");
        int[] due = {1, 2, 3, 4, 5, 6};
        for (int passes = 1; passes <= 6; passes++) {
            CHECK.same("always a mistake, learn(" + passes + ")", passesBehind("a/A;a/B", passes), due[passes - 1]);
            CHECK.same("never a mistake, learn(" + passes + ")", passesBehind("a/A", passes), 1);
            CHECK.same("one mistake, learn(" + passes + ")", passesBehind("a/B", passes), passes == 1 ? 1 : 2);
        }
        LabelLearner x = Made.loaded("a/B");
        x.learn(6);
        CHECK.same("totals of two passes", x.weight(26, 1, true), 2);
        CHECK.same("called again", x.learn(6), 0);
        CHECK.same("it makes one pass", x.passes(), 3);
        CHECK.same("and adds to the totals", x.weight(26, 1, true), 3);
    }

    private static int passesBehind(String corpus, int passes) {
        LabelLearner x = Made.loaded(corpus);
        x.learn(passes);
        return x.passes();
    }

    private static void learnRefusesOtherNumbers() {
        CHECK.about("Promise 10: IllegalArgumentException when passes is not 1 .. 6");
        CHECK.same("learn(1)", passesBehind("a/A;a/B", 1), 1);
        CHECK.same("learn(6)", passesBehind("a/A;a/B", 6), 6);
        int[] wrong = {0, 7, -1, -6, 8, LEAST, LEAST + 1, GREATEST};
        for (int passes : wrong) {
            CHECK.throwsAndLeaves("learn(" + passes + ")", ARGUMENT, Made::busy, x -> x.learn(passes));
            CHECK.throwsAndLeaves("learn(" + passes + "), new", ARGUMENT, LabelLearner::new, x -> x.learn(passes));
        }
    }

    private static void learnRefusesWithoutCorpus() {
        CHECK.about("Promise 10: IllegalStateException when there is no corpus.");
        for (int passes = 1; passes <= 6; passes++) {
            int right = passes;
            CHECK.throwsAndLeaves("new", STATE, LabelLearner::new, x -> x.learn(right));
            CHECK.throwsAndLeaves("a text alone", STATE, () -> Made.typed("a/A;b/B"), x -> x.learn(right));
            CHECK.throwsAndLeaves("a speech alone", STATE, () -> Made.spoken("a b"), x -> x.learn(right));
            CHECK.throwsAndLeaves("a decoding", STATE, () -> Made.spokenAndDecoded("a b"), x -> x.learn(right));
        }
        CHECK.same("a corpus", Made.loaded("a/A").learn(6), 0);
    }

    private static void mistakesSinceLoad() {
        CHECK.about("Promise 11: How many mistakes there were since the corpus was loaded.");
        LabelLearner x = Made.loaded("a/A;a/B");
        CHECK.same("none yet", x.mistakes(), 0);
        x.learn(1);
        CHECK.same("of one pass", x.mistakes(), 1);
        x.learn(6);
        CHECK.same("of all passes, not of the last one or the last call", x.mistakes(), 13);
        CHECK.refused("a load that is refused", ARGUMENT, x::load);
        CHECK.same("of all passes still", x.mistakes(), 13);
        Made.typeAll(x, "a");
        x.speak();
        CHECK.same("of all passes, behind speak", x.mistakes(), 13);
        Made.typeAll(x, "a/B");
        x.load();
        CHECK.same("of none, behind load", x.mistakes(), 0);
        x.learn(6);
        CHECK.same("of the passes since", x.mistakes(), 1);
    }

    private static void passesSinceLoad() {
        CHECK.about("Promise 12: How many passes there were since then.");
        LabelLearner x = Made.loaded("a/A;a/B");
        CHECK.same("none yet", x.passes(), 0);
        x.learn(1);
        CHECK.same("one", x.passes(), 1);
        x.learn(6);
        CHECK.same("seven", x.passes(), 7);
        CHECK.refused("a load that is refused", ARGUMENT, x::load);
        CHECK.same("seven still", x.passes(), 7);
        Made.typeAll(x, "a");
        x.speak();
        CHECK.same("seven, behind speak", x.passes(), 7);
        Made.typeAll(x, "a/B");
        x.load();
        CHECK.same("none, behind load", x.passes(), 0);
        x.learn(6);
        CHECK.same("two since", x.passes(), 2);
    }

    private static void weightRows() {
        CHECK.about("Promise 13: a is 0 .. 31 for a bucket with label b, 32 for b as the first label, 33 .. 36 for label "
            + "a - 33 with b behind");
        LabelLearner x = Made.loaded("f/D g/B");
        x.learn(1);
        weightsAre("bucket 31", x, 31, -1, 0, 0, 1);
        weightsAre("bucket 0, of g and of -f", x, 0, -2, 1, 0, 1);
        weightsAre("the first label", x, 32, -1, 0, 0, 1);
        weightsAre("behind A", x, 33, -1, 0, 0, 0);
        weightsAre("behind B", x, 34, 0, 0, 0, 0);
        weightsAre("behind C", x, 35, 0, 0, 0, 0);
        weightsAre("behind D", x, 36, 0, 1, 0, 0);
        x.learn(1);
        CHECK.same("a weight", x.weight(36, 1, false), 1);
        CHECK.same("its total", x.weight(36, 1, true), 2);
        LabelLearner y = Made.loaded("a/D b/D");
        y.learn(1);
        CHECK.same("the last weight", y.weight(36, 3, false), 1);
        CHECK.same("the last total", y.weight(36, 3, true), 1);
    }

    private static void weightsAre(String what, LabelLearner x, int a, long... due) {
        for (int b = 0; b < 4; b++) {
            CHECK.same(what + ": weight(" + a + ", " + b + ", false)", x.weight(a, b, false), due[b]);
            CHECK.same(what + ": weight(" + a + ", " + b + ", true)", x.weight(a, b, true), due[b]);
        }
    }

    private static void weightRefusesOthers() {
        CHECK.about("Promise 13: IndexOutOfBoundsException when there is no such one.");
        int[][] wrong = {{-1, 0}, {-1, 3}, {-1, 4}, {37, 0}, {37, 3}, {37, -1}, {38, 0}, {0, -1}, {0, 4}, {31, 4}, {32, -1},
            {32, 4}, {33, -1}, {36, 4}, {36, -1}, {36, 5}, {LEAST, 0}, {GREATEST, 0}, {0, LEAST}, {0, GREATEST},
            {1 << 30, 0}, {LEAST, LEAST}, {GREATEST, GREATEST}};
        for (int[] at : wrong) {
            for (boolean total : BOTH) {
                String call = "weight(" + at[0] + ", " + at[1] + ", " + total + ")";
                CHECK.throwsAndLeaves(call, INDEX, Made::busy, x -> x.weight(at[0], at[1], total));
                CHECK.refused(call + ", new", INDEX, () -> new LabelLearner().weight(at[0], at[1], total));
            }
        }
        int[][] right = {{0, 0}, {0, 3}, {31, 0}, {31, 3}, {32, 0}, {32, 3}, {33, 0}, {33, 3}, {36, 0}, {36, 3}};
        for (int[] at : right) {
            for (boolean total : BOTH) {
                long got = new LabelLearner().weight(at[0], at[1], total);
                CHECK.same("weight(" + at[0] + ", " + at[1] + ", " + total + ")", got, 0);
            }
        }
    }
}
