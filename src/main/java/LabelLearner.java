/**
 * A learner that labels the words of sentences: from sentences with labels it learns weights of what words look like
 * and of what labels stand beside one another, by mending them where it errs; it finds the best labelling of all, and
 * the second best one, and knows the averages of all weights that it had.
 *
 * <p>A labelling is held everywhere as one int, the label of word i in bits 2 i and 2 i + 1, and 0 above the last word,
 * so that two labellings of a sentence are the same exactly if their ints are.
 */
public final class LabelLearner {
    public static final int NONE = -1;

    private static final int MOST_SENTENCES = 8;
    private static final int MOST_WORDS = 6;
    private static final int MOST_LETTERS = 6;
    private static final int MOST_CHARACTERS = 240;
    private static final int MOST_TYPED = 8;
    private static final int MOST_PASSES = 6;
    private static final int LABELS = 4;
    private static final int FEATURES = 3;
    private static final int RANKS = 2;

    private static final int SPEECH = -1;

    // The rows of weights, numbered as the method weight numbers them: the buckets come first.
    private static final int FIRST_ROW = 32;
    private static final int PAIR_ROWS = 33;
    private static final int ROWS = 37;

    private final Text text;
    private final Decoder decoder;
    private final Weights weights;
    private final Weights totals;

    // What is read goes into a draft, which changes places with the old one only if all of it was right.
    private Corpus corpus;
    private Corpus corpusDraft;
    private Sentence speech;
    private Sentence speechDraft;

    private int mistakeCount;
    private int passCount;
    private int keptWords;
    private int keptLabelling;

    public LabelLearner() {
        text = new Text();
        decoder = new Decoder();
        weights = new Weights();
        totals = new Weights();
        corpus = new Corpus();
        corpusDraft = new Corpus();
        speech = new Sentence();
        speechDraft = new Sentence();
    }

    public boolean type(long w, int n) {
        return text.append(w, n);
    }

    public boolean cut(int n) {
        return text.keep(n);
    }

    public int load() throws IllegalArgumentException {
        if (!text.readCorpus(corpusDraft)) {
            throw new IllegalArgumentException("the text is no corpus");
        }
        Corpus old = corpus;
        corpus = corpusDraft;
        corpusDraft = old;
        text.keep(0);
        weights.clear();
        totals.clear();
        mistakeCount = 0;
        passCount = 0;
        forgetDecoding();
        return corpus.size;
    }

    public int speak() throws IllegalArgumentException {
        if (!text.readSpeech(speechDraft)) {
            throw new IllegalArgumentException("the text is no speech");
        }
        Sentence old = speech;
        speech = speechDraft;
        speechDraft = old;
        text.keep(0);
        forgetDecoding();
        return speech.size;
    }

    public int sentences() {
        return corpus.size;
    }

    public int words(int sentence) throws IndexOutOfBoundsException {
        return sentenceNumbered(sentence).size;
    }

    public int given(int sentence, int word) throws IndexOutOfBoundsException {
        if (sentence == SPEECH) {
            throw new IndexOutOfBoundsException("the speech is not in the corpus");
        }
        Sentence found = sentenceNumbered(sentence);
        requireWord(word, found.size);
        return labelIn(found.labelling, word);
    }

    public int feature(int sentence, int word, int k) throws IndexOutOfBoundsException {
        Sentence found = sentenceNumbered(sentence);
        requireWord(word, found.size);
        if (k < 0 || k >= FEATURES) {
            throw new IndexOutOfBoundsException("no such feature");
        }
        return found.bucketOf(word, k);
    }

    public int learn(int passes) throws IllegalArgumentException, IllegalStateException {
        if (passes < 1 || passes > MOST_PASSES) {
            throw new IllegalArgumentException("passes are 1 to 6");
        }
        if (corpus.size == 0) {
            throw new IllegalStateException("there is no corpus");
        }
        int latest = learnCorpus();
        for (int pass = 1; pass < passes && latest > 0; pass++) {
            latest = learnCorpus();
        }
        return latest;
    }

    public int mistakes() {
        return mistakeCount;
    }

    public int passes() {
        return passCount;
    }

    public long weight(int a, int b, boolean total) throws IndexOutOfBoundsException {
        if (a < 0 || a >= ROWS || b < 0 || b >= LABELS) {
            throw new IndexOutOfBoundsException("no such weight");
        }
        return weightsOrTotals(total).at(a, b);
    }

    public long decode(int sentence, boolean totals, boolean second) throws IndexOutOfBoundsException {
        Sentence found = sentenceNumbered(sentence);
        Ranking ranking = decoder.rank(found, weightsOrTotals(totals));
        int rank = second ? 1 : 0;
        keptWords = found.size;
        keptLabelling = ranking.labellings[rank];
        return ranking.scores[rank];
    }

    public int label(int word) throws IndexOutOfBoundsException {
        requireWord(word, keptWords);
        return labelIn(keptLabelling, word);
    }

    public long score(int sentence, int labels, boolean totals) throws IndexOutOfBoundsException {
        return weightsOrTotals(totals).sum(sentenceNumbered(sentence), labels);
    }

    public int errors(boolean totals) {
        int wrong = 0;
        for (int i = 0; i < corpus.size; i++) {
            Sentence sentence = corpus.members[i];
            int best = decoder.rank(sentence, weightsOrTotals(totals)).labellings[0];
            wrong += differences(sentence.size, best, sentence.labelling);
        }
        return wrong;
    }

    private Sentence sentenceNumbered(int number) {
        if (number == SPEECH && speech.size > 0) {
            return speech;
        }
        if (number < 0 || number >= corpus.size) {
            throw new IndexOutOfBoundsException("no such sentence");
        }
        return corpus.members[number];
    }

    private void forgetDecoding() {
        keptWords = 0;
        keptLabelling = 0;
    }

    private Weights weightsOrTotals(boolean wantTotals) {
        return wantTotals ? totals : weights;
    }

    private int learnCorpus() {
        int wrong = 0;
        for (int i = 0; i < corpus.size; i++) {
            if (learnSentence(corpus.members[i])) {
                wrong++;
            }
        }
        mistakeCount += wrong;
        passCount++;
        return wrong;
    }

    private boolean learnSentence(Sentence sentence) {
        int best = decoder.rank(sentence, weights).labellings[0];
        boolean mistake = best != sentence.labelling;
        if (mistake) {
            weights.change(sentence, sentence.labelling, 1);
            weights.change(sentence, best, -1);
        }
        totals.addAll(weights);
        return mistake;
    }

    private static void requireWord(int word, int size) {
        if (word < 0 || word >= size) {
            throw new IndexOutOfBoundsException("no such word");
        }
    }

    private static int labelIn(int labelling, int word) {
        return (labelling >>> 2 * word) & 3;
    }

    private static int differences(int size, int one, int other) {
        int count = 0;
        for (int word = 0; word < size; word++) {
            if (labelIn(one, word) != labelIn(other, word)) {
                count++;
            }
        }
        return count;
    }

    /**
     * The characters that were typed and not yet used. It is read from its start: where the reading can't go on it stands
     * still, and whoever asked sees what stands there.
     */
    private static final class Text {
        private static final int EMPTY_HASH = 7;

        private final char[] characters = new char[MOST_CHARACTERS];
        private int length;
        private int at;

        private boolean append(long packed, int n) {
            if (n < 1 || n > MOST_TYPED || n > MOST_CHARACTERS - length) {
                return false;
            }
            for (int i = 0; i < n; i++) {
                int code = byteOf(packed, i);
                if (code < 32 || code > 126) {
                    return false;
                }
            }
            for (int i = 0; i < n; i++) {
                characters[length + i] = (char) byteOf(packed, i);
            }
            length += n;
            return true;
        }

        private boolean keep(int n) {
            if (n < 0 || n > length) {
                return false;
            }
            length = n;
            return true;
        }

        private static int byteOf(long packed, int i) {
            return (int) (packed >>> 8 * i) & 255;
        }

        private boolean readCorpus(Corpus into) {
            at = 0;
            into.size = 0;
            for (int i = 0; i < MOST_SENTENCES; i++) {
                if (!readSentence(into.members[i], true)) {
                    return false;
                }
                into.size++;
                if (at == length) {
                    return true;
                }
                if (!take(';')) {
                    return false;
                }
            }
            return false;
        }

        private boolean readSpeech(Sentence into) {
            at = 0;
            return readSentence(into, false) && at == length;
        }

        /** Stops in front of a seventh word, and in front of a word that no space parts from the one before. */
        private boolean readSentence(Sentence into, boolean labelled) {
            into.clear();
            skipSpaces();
            int from = at;
            int to = at;
            boolean parted = true;
            for (int word = 0; word < MOST_WORDS && parted && isLetter(current()); word++) {
                int start = at;
                skipLetters();
                setFeatures(into, start, from, to);
                from = start;
                to = at;
                if (labelled && !readLabel(into)) {
                    return false;
                }
                into.size = word + 1;
                parted = skipSpaces();
            }
            return into.size > 0;
        }

        /** The word goes from start to here, the one before it from beforeFrom to beforeTo (empty for the first). */
        private void setFeatures(Sentence into, int start, int beforeFrom, int beforeTo) {
            int tail = Math.max(start, at - 2);
            into.setBucket(into.size, 0, bucket(hash(EMPTY_HASH, start, at)));
            into.setBucket(into.size, 1, bucket(hash(mix(EMPTY_HASH, '-'), tail, at)));
            into.setBucket(into.size, 2, bucket(hash(mix(EMPTY_HASH, '<'), beforeFrom, beforeTo)));
        }

        private boolean readLabel(Sentence into) {
            if (!take('/')) {
                return false;
            }
            int label = current() - 'A';
            if (label < 0 || label >= LABELS) {
                return false;
            }
            at++;
            into.labelling |= label << 2 * into.size;
            return true;
        }

        private boolean take(char wanted) {
            if (current() != wanted) {
                return false;
            }
            at++;
            return true;
        }

        private boolean skipSpaces() {
            int start = at;
            while (at < length && current() == ' ') {
                at++;
            }
            return at > start;
        }

        private void skipLetters() {
            for (int i = 0; i < MOST_LETTERS && isLetter(current()); i++) {
                at++;
            }
        }

        private int current() {
            return at < length ? characters[at] : NONE;
        }

        private int hash(int start, int from, int to) {
            int h = start;
            for (int i = from; i < to; i++) {
                h = mix(h, characters[i]);
            }
            return h;
        }

        private static int mix(int h, char c) {
            return 31 * h + c;
        }

        private static int bucket(int h) {
            return (h ^ h >>> 15) & 31;
        }

        private static boolean isLetter(int code) {
            return code >= 'a' && code <= 'z';
        }
    }

    /** The words of a sentence by what is asked of them later: their features, and their labels if they have some. */
    private static final class Sentence {
        private final int[] buckets = new int[MOST_WORDS * FEATURES];
        private int labelling;
        private int size;

        private void clear() {
            size = 0;
            labelling = 0;
        }

        private int bucketOf(int word, int k) {
            return buckets[word * FEATURES + k];
        }

        private void setBucket(int word, int k, int bucket) {
            buckets[word * FEATURES + k] = bucket;
        }
    }

    private static final class Corpus {
        private final Sentence[] members = new Sentence[MOST_SENTENCES];
        private int size;

        private Corpus() {
            for (int i = 0; i < MOST_SENTENCES; i++) {
                members[i] = new Sentence();
            }
        }
    }

    /** One number for each row and label: the weights, or their totals. */
    private static final class Weights {
        private final long[] values = new long[ROWS * LABELS];

        private long at(int row, int label) {
            return values[row * LABELS + label];
        }

        private void add(int row, int label, long more) {
            values[row * LABELS + label] += more;
        }

        private void clear() {
            for (int i = 0; i < values.length; i++) {
                values[i] = 0;
            }
        }

        private void addAll(Weights other) {
            for (int i = 0; i < values.length; i++) {
                values[i] += other.values[i];
            }
        }

        private long ofWord(Sentence sentence, int word, int label) {
            long sum = 0;
            for (int k = 0; k < FEATURES; k++) {
                sum += at(sentence.bucketOf(word, k), label);
            }
            return sum;
        }

        private long sum(Sentence sentence, int labelling) {
            long sum = 0;
            int row = FIRST_ROW;
            for (int word = 0; word < sentence.size; word++) {
                int label = labelIn(labelling, word);
                sum += at(row, label) + ofWord(sentence, word, label);
                row = PAIR_ROWS + label;
            }
            return sum;
        }

        private void change(Sentence sentence, int labelling, long more) {
            int row = FIRST_ROW;
            for (int word = 0; word < sentence.size; word++) {
                int label = labelIn(labelling, word);
                add(row, label, more);
                for (int k = 0; k < FEATURES; k++) {
                    add(sentence.bucketOf(word, k), label, more);
                }
                row = PAIR_ROWS + label;
            }
        }
    }

    /**
     * The best and the second of the labellings that were offered. Of two with the same score the one that was offered
     * earlier is held to be better: whoever offers them keeps to the order of their labels.
     */
    private static final class Ranking {
        private final long[] scores = new long[RANKS];
        private final int[] labellings = new int[RANKS];
        private int size;

        private void clear() {
            size = 0;
        }

        private void offer(long score, int labelling) {
            if (size == 0 || score > scores[0]) {
                scores[1] = scores[0];
                labellings[1] = labellings[0];
                scores[0] = score;
                labellings[0] = labelling;
            } else if (size == 1 || score > scores[1]) {
                scores[1] = score;
                labellings[1] = labelling;
            }
            if (size < RANKS) {
                size++;
            }
        }

        private void offerLonger(Ranking tails, long more, int labelsBefore) {
            for (int rank = 0; rank < tails.size; rank++) {
                offer(tails.scores[rank] + more, tails.labellings[rank] | labelsBefore);
            }
        }
    }

    /**
     * Ranks the labellings of the tails of a sentence, the shortest first, for each label that a tail may begin with.
     * It goes from the last word to the first so that, of tails with the same score, the one with the lesser label
     * where they differ first is the one with the lesser next label, or else the one ranked better before.
     */
    private static final class Decoder {
        private final Ranking[] tails = new Ranking[MOST_WORDS * LABELS];
        private final Ranking whole = new Ranking();

        private Decoder() {
            for (int i = 0; i < tails.length; i++) {
                tails[i] = new Ranking();
            }
        }

        private Ranking rank(Sentence sentence, Weights by) {
            for (int word = sentence.size - 1; word >= 0; word--) {
                for (int label = 0; label < LABELS; label++) {
                    rankTails(sentence, by, word, label);
                }
            }
            whole.clear();
            for (int label = 0; label < LABELS; label++) {
                whole.offerLonger(tailsFrom(0, label), by.at(FIRST_ROW, label), 0);
            }
            return whole;
        }

        private void rankTails(Sentence sentence, Weights by, int word, int label) {
            Ranking ranking = tailsFrom(word, label);
            long here = by.ofWord(sentence, word, label);
            int labels = label << 2 * word;
            ranking.clear();
            if (word == sentence.size - 1) {
                ranking.offer(here, labels);
                return;
            }
            for (int next = 0; next < LABELS; next++) {
                ranking.offerLonger(tailsFrom(word + 1, next), here + by.at(PAIR_ROWS + label, next), labels);
            }
        }

        private Ranking tailsFrom(int word, int label) {
            return tails[word * LABELS + label];
        }
    }
}
