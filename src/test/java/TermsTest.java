/**
 * The boundary cases that the document names in "What it is" and in "Terms", sentence by sentence, each on both sides of
 * its boundary.
 */
public final class TermsTest {
    private static final Class<IllegalArgumentException> ARGUMENT = IllegalArgumentException.class;
    private static final Class<IllegalStateException> STATE = IllegalStateException.class;

    private static final Check CHECK = new Check();

    public static void main(String[] args) {
        none();
        lastCall();
        labels();
        letters();
        wordsOfSentence();
        lengthOfText();
        charactersOfText();
        sentencesOfCorpus();
        labelBehindEach();
        spacesBetween();
        spacesAround();
        speechIsOneSentence();
        speechWithoutLabels();
        longerIsNeither();
        hashFrom7();
        hashWraps();
        bucketFoldsHash();
        featureOfEnding();
        featureOfWordBefore();
        scoreOfOneWord();
        scoreOfPairs();
        greaterScoreIsBetter();
        lesserLabelWhereTheyDifferFirst();
        secondIsBetterThanAllButBest();
        mistakeIsAnyDifference();
        sameLabelGrowsAndShrinks();
        totalsGrowMistakeOrNot();
        passLearnsOneAfterTheOther();
        latestDecodingIsKept();
        firstNamedException();
        CHECK.end();
    }

    private static void none() {
        CHECK.about("public static final int NONE = -1;");
        CHECK.same("NONE", LabelLearner.NONE, -1);
    }

    private static void lastCall() {
        CHECK.about("An object is used for at most 512 calls after it has been made");
        CHECK.same("passes, the 512th call", used511Times().passes(), 3054);
        CHECK.same("mistakes, the 512th call", used511Times().mistakes(), 6107);
        CHECK.same("a weight, the 512th call", used511Times().weight(26, 1, false), 1);
        CHECK.same("a total, the 512th call", used511Times().weight(26, 1, true), 3054);
        CHECK.same("decode, the 512th call", used511Times().decode(0, true, false), 4 * 3054);
        CHECK.same("errors, the 512th call", used511Times().errors(true), 1);
        CHECK.same("learn, the 512th call", used511Times().learn(6), 2);
    }

    /** It learns what can't be learnt: each pass makes the weights of a with B 1, and then 0 again. */
    private static LabelLearner used511Times() {
        LabelLearner x = Made.loaded("a/A;a/B");
        for (int call = 3; call < 512; call++) {
            x.learn(6);
        }
        return x;
    }

    private static void labels() {
        CHECK.about("LABELS are 0 .. 3, written A .. D.");
        String written = "ABCD";
        for (int label = 0; label < 4; label++) {
            LabelLearner x = Made.loaded("a/" + written.charAt(label));
            CHECK.same("given of " + written.charAt(label), x.given(0, 0), label);
        }
        for (char c = 32; c < 127; c++) {
            if (written.indexOf(c) < 0) {
                isNoCorpus("a/" + c);
            }
        }
    }

    private static void letters() {
        CHECK.about("WORDS are one to six letters a .. z.");
        for (char c = 32; c < 127; c++) {
            boolean letter = c >= 'a' && c <= 'z';
            isCorpusOnlyIf(letter, "" + c + "/A", 1);
            isSpeechOnlyIf(letter, "" + c, 1);
            isCorpusOnlyIf(letter, "b" + c + "b/A", 1);
            isSpeechOnlyIf(letter || c == ' ', "b" + c + "b", c == ' ' ? 2 : 1);
        }
        for (int count = 0; count <= 13; count++) {
            boolean right = count >= 1 && count <= 6;
            isCorpusOnlyIf(right, "z".repeat(count) + "/D", 1);
            isSpeechOnlyIf(right, "z".repeat(count), 1);
        }
    }

    private static void wordsOfSentence() {
        CHECK.about("A SENTENCE has one to six words.");
        for (int count = 0; count <= 8; count++) {
            boolean right = count >= 1 && count <= 6;
            isCorpusOnlyIf(right, row("ab/C", " ", count), 1);
            isCorpusOnlyIf(right, "a/A;" + row("ab/C", " ", count) + ";b/B", 3);
            isSpeechOnlyIf(right, row("ab", " ", count), count);
        }
        LabelLearner x = Made.loaded(row("ab/C", " ", 6) + ";b/B");
        CHECK.same("words of six", x.words(0), 6);
        CHECK.same("words of one", x.words(1), 1);
    }

    private static void lengthOfText() {
        CHECK.about("THE TEXT has at most 240 characters");
        LabelLearner x = new LabelLearner();
        for (int count = 1; count <= 240; count++) {
            CHECK.same("the character number " + count, x.type('a', 1), true);
        }
        CHECK.same("the character number 241", x.type('a', 1), false);
        CHECK.same("240 characters are there", x.cut(240), true);
        CHECK.same("241 are not", x.cut(241), false);
        isCorpus(" ".repeat(237) + "z/D", 1);
        isSpeech(" ".repeat(239) + "z", 1);
        isCorpus(row("abcdef/D abcdef/D abcdef/D", ";", 8) + " ".repeat(25), 8);
    }

    private static void charactersOfText() {
        CHECK.about("THE TEXT has ... characters 32 .. 126.");
        for (int code = 0; code < 256; code++) {
            CHECK.same("type of code " + code, new LabelLearner().type(code, 1), code >= 32 && code <= 126);
        }
    }

    private static void sentencesOfCorpus() {
        CHECK.about("The text is a CORPUS, if it is one to eight sentences with ; between");
        for (int count = 0; count <= 10; count++) {
            isCorpusOnlyIf(count >= 1 && count <= 8, row("a/B", ";", count), count);
            isCorpusOnlyIf(count >= 1 && count <= 8, row(" a/B  b/C ", ";", count), count);
            isNoCorpus(";" + row("a/B", ";", count));
            isNoCorpus(row("a/B", ";", count) + ";");
            isNoCorpus(row("a/B", ";", count) + "; ");
        }
        isNoCorpus("a/A;;b/B");
        isNoCorpus("a/A; ;b/B");
        isNoCorpus("a/A:b/B");
        isCorpus(row("a/D b/D c/D d/D e/D f/D", ";", 8), 8);
    }

    private static void labelBehindEach() {
        CHECK.about("a sentence is one to six words with / and a label behind each");
        isCorpus("a/A b/B", 1);
        String[] wrong = {"a b/B", "a/A b", "aA b/B", "a/A bB", "a/ b/B", "a/A b/", "a//A b/B", "a/A b//B", "a/AB", "a/A/B",
            "/A b/B", "a /A", "a/ A", "a / A", "A/a", "a/A b/B c", "a/A;b", "a;b/B", "a/A ;b/", "/A", "a/", "/"};
        for (String text : wrong) {
            isNoCorpus(text);
        }
    }

    private static void spacesBetween() {
        CHECK.about("one or more spaces between two");
        for (int count = 0; count < 200; count += 1 + count / 4) {
            isCorpusOnlyIf(count > 0, "a/A" + " ".repeat(count) + "b/B" + " ".repeat(count > 0 ? 1 : 0) + "c/C", 1);
            isSpeechOnlyIf(true, "a" + " ".repeat(count) + "b", count > 0 ? 2 : 1);
        }
        isNoCorpus("a/A b/Bc/C");
        isNoCorpus("a/A_b/B");
        LabelLearner x = Made.loaded("a/A" + " ".repeat(200) + "b/B");
        CHECK.same("two words with many spaces between", x.words(0), 2);
        CHECK.same("the label behind many spaces", x.given(0, 1), 1);
        CHECK.same("no space is in the word before", x.feature(0, 1, 2), 12);
    }

    private static void spacesAround() {
        CHECK.about("and perhaps spaces before and behind the sentence");
        for (int before = 0; before < 3; before++) {
            for (int behind = 0; behind < 3; behind++) {
                String front = " ".repeat(before);
                String back = " ".repeat(behind);
                isCorpus(front + "a/A b/B" + back, 1);
                isCorpus(front + "a/A" + back + ";" + front + "b/B c/C" + back + ";" + front + "d/D" + back, 3);
                isCorpus(front + row("a/A", " ", 6) + back, 1);
                isSpeech(front + "a b" + back, 2);
                isSpeech(front + row("a", " ", 6) + back, 6);
                isNoCorpus(front + back);
                isNoSpeech(front + back);
                isNoCorpus("a/A;" + front + back);
            }
        }
        LabelLearner x = Made.spoken("  a");
        CHECK.same("no space is in the first word", x.feature(-1, 0, 0), 26);
        CHECK.same("nor before it", x.feature(-1, 0, 2), 21);
    }

    private static void speechIsOneSentence() {
        CHECK.about("It is a SPEECH, if it is one sentence of one to six words, likewise");
        isSpeech("a", 1);
        isSpeech("a b c d e f", 6);
        String[] wrong = {"", " ", ";", "a;", ";a", "a;b", "a ; b", "a b c d e f;", "a b c d e f g"};
        for (String text : wrong) {
            isNoSpeech(text);
        }
    }

    private static void speechWithoutLabels() {
        CHECK.about("without / and labels");
        String[] wrong = {"a/A", "a/", "/", "a/A b", "a b/B", "a /", "aA", "a A", "A", "a b c d e f/", "a b c d e f A"};
        for (String text : wrong) {
            isNoSpeech(text);
        }
        isNoCorpus("a");
        isNoCorpus("a b");
    }

    private static void longerIsNeither() {
        CHECK.about("(A word or sentence that would be longer makes it neither.)");
        String[] sixLetters = {"abcdef", "abcdef a", "a abcdef", "a b c d e abcdef"};
        for (String words : sixLetters) {
            isSpeech(words, words.split(" ").length);
            isNoSpeech(words.replace("abcdef", "abcdefg"));
            isCorpus(labelled(words), 1);
            isNoCorpus(labelled(words.replace("abcdef", "abcdefg")));
            isCorpus("a/A;" + labelled(words), 2);
            isNoCorpus("a/A;" + labelled(words.replace("abcdef", "abcdefg")));
        }
        isSpeech(" a b c d e f ", 6);
        isNoSpeech(" a b c d e f g ");
        isCorpus("a/A b/A c/A d/A e/A f/A ; g/A", 2);
        isNoCorpus("a/A b/A c/A d/A e/A f/A g/A ; h/A");
        isNoCorpus("h/A ; a/A b/A c/A d/A e/A f/A g/A");
        isNoCorpus("a/A b/A c/A d/A e/A f/A g/A h/A i/A j/A k/A l/A");
    }

    private static void hashFrom7() {
        CHECK.about("THE HASH of a row of characters: from 7 on, for each, it becomes 31 times it and the character's code");
        bucketOfWordIs("a", 26);
        bucketOfWordIs("z", 19);
        bucketOfWordIs("az", 0);
        bucketOfWordIs("zz", 7);
    }

    private static void hashWraps() {
        CHECK.about("(wrapping, an int)");
        bucketOfWordIs("aaaaa", 22);
        bucketOfWordIs("zzzzz", 23);
        bucketOfWordIs("aaaaaa", 11);
        bucketOfWordIs("mmmmmm", 25);
        bucketOfWordIs("zzzzzz", 17);
        LabelLearner x = Made.spoken("aaaa zzzz aaaaa zzzzz aaaaaa zzzzzz");
        int[] due = {21, 12, 4, 9, 24, 4};
        for (int word = 0; word < 6; word++) {
            CHECK.same("the word before, of word " + word, x.feature(-1, word, 2), due[word]);
        }
        LabelLearner y = Made.spoken("zzzzzz z");
        CHECK.same("the word before, wrapped more than once", y.feature(-1, 1, 2), 14);
    }

    private static void bucketFoldsHash() {
        CHECK.about("its BUCKET is (h ^ h >>> 15) & 31");
        bucketOfWordIs("f", 31);
        bucketOfWordIs("g", 0);
        bucketOfWordIs("aa", 7);
        bucketOfWordIs("abc", 18);
        bucketOfWordIs("zzzz", 16);
        for (char c = 'a'; c <= 'z'; c++) {
            bucketOfWordIs("" + c, (c - 'a' + 26) % 32);
        }
    }

    private static void featureOfEnding() {
        CHECK.about("1 the bucket of - and its last two letters (or its one)");
        endingIs("a", 27);
        endingIs("z", 20);
        endingIs("ab", 0);
        endingIs("zz", 1);
        endingIs("zab", 0);
        endingIs("abz", 25);
        endingIs("zzzzab", 0);
    }

    private static void endingIs(String word, int due) {
        CHECK.same("ending of " + word + " in a speech", Made.spoken(word).feature(-1, 0, 1), due);
        CHECK.same("ending of " + word + ", not first", Made.spoken("b " + word).feature(-1, 1, 1), due);
        CHECK.same("ending of " + word + " in a corpus", Made.loaded("b/B;" + word + "/A").feature(1, 0, 1), due);
    }

    private static void featureOfWordBefore() {
        CHECK.about("2 the bucket of < and the word before it (of < alone, if it is the first one)");
        LabelLearner x = Made.loaded("a/A b/B;zzzz/C a/D  a/D");
        int[][] due = {{0, 0, 21}, {0, 1, 12}, {1, 0, 21}, {1, 1, 4}, {1, 2, 12}};
        for (int[] at : due) {
            CHECK.same("the word before, of " + at[0] + ", " + at[1], x.feature(at[0], at[1], 2), at[2]);
        }
        Made.typeAll(x, "  b  a z");
        x.speak();
        CHECK.same("first in a speech, behind a corpus", x.feature(-1, 0, 2), 21);
        CHECK.same("last in a speech", x.feature(-1, 2, 2), 12);
    }

    private static void scoreOfOneWord() {
        CHECK.about("of the first word's label as the first one");
        LabelLearner x = learnt("a/B c/D", 1, "z");
        CHECK.same("one word: B as the first one, and < alone", x.score(-1, 1, false), 2);
        CHECK.same("one word: D was not the first one", x.score(-1, 3, false), 0);
        LabelLearner y = learnt("a/B c/D", 1, "z z");
        CHECK.same("two words: it counts once", y.score(-1, 1 | 2 << 2, false), 2);
        CHECK.same("two words: B as the second one", y.score(-1, 2 | 1 << 2, false), 0);
    }

    private static void scoreOfPairs() {
        CHECK.about("and of each label and the next one");
        LabelLearner x = learnt("a/B c/D", 1, "z z z z z z");
        CHECK.same("BD at the end", x.score(-1, 2 | 2 << 2 | 2 << 4 | 2 << 6 | 1 << 8 | 3 << 10, false), 1);
        CHECK.same("BD thrice, B first", x.score(-1, 1 | 3 << 2 | 1 << 4 | 3 << 6 | 1 << 8 | 3 << 10, false), 3 + 2);
        CHECK.same("DB is not BD", x.score(-1, 2 | 3 << 2 | 1 << 4 | 2 << 6 | 2 << 8 | 2 << 10, false), 0);
        CHECK.same("a label and the next but one", x.score(-1, 2 | 1 << 2 | 2 << 4 | 3 << 6 | 2 << 8 | 2 << 10, false), 0);
    }

    private static void greaterScoreIsBetter() {
        CHECK.about("Of two labellings of a sentence the one with the greater score is BETTER");
        LabelLearner x = learnt("a/D", 1, "a");
        decodesTo("the greater label, by 8", x, false, "D", 4);
        LabelLearner y = learnt("a/C b/C;b/D", 2, "b a");
        ranksAllRight(y);
    }

    private static void lesserLabelWhereTheyDifferFirst() {
        CHECK.about("of those with the same score the one that has the lesser label where they differ first");
        LabelLearner x = Made.spoken("a b c d e f");
        decodesTo("all scores 0", x, false, "AAAAAA", 0);
        decodesTo("all scores 0", x, true, "AAAAAB", 0);
        decodesTo("all scores 0, one word", Made.spoken("a"), false, "A", 0);
        decodesTo("all scores 0, one word", Made.spoken("a"), true, "B", 0);
        tie("c/A b/D b/B", 1, "d d", "AD", 1, "DB", 1);
        tie("b/A a/C a/B", 1, "d d", "AC", 1, "CB", 1);
        tie("c/D c/A;a/A b/C", 1, "c d c", "CDC", 3, "DAC", 3);
        tie("b/B;b/C b/A", 2, "a c a", "CAC", 6, "CCA", 6);
        tie("c/C c/A b/D;a/A", 2, "d c a", "ADD", 5, "CAD", 5);
    }

    private static void secondIsBetterThanAllButBest() {
        CHECK.about("The BEST one is better than all others, the SECOND is better than all but that.");
        tie("b/C c/D", 1, "a c c", "CDD", 8, "CCD", 7);
        tie("b/C a/A;a/D c/B", 2, "d d", "DB", 5, "BB", 2);
        tie("b/D a/D c/C", 1, "d b", "DD", 6, "CD", 4);
        tie("a/A b/D c/C;c/C c/B", 2, "c b d", "CDC", 8, "ADC", 7);
        LabelLearner x = learnt("a/B", 1, "a");
        decodesTo("one word", x, false, "B", 4);
        decodesTo("one word, the second of B C D A", x, true, "C", 0);
    }

    private static void tie(String corpus, int passes, String speech, String best, long most, String second, long next) {
        LabelLearner x = learnt(corpus, passes, speech);
        decodesTo(corpus + " best", x, false, best, most);
        decodesTo(corpus + " second", x, true, second, next);
        ranksAllRight(x);
    }

    /** Asks for the scores of all labellings of the speech, in the order of their labels, and ranks them by the rule. */
    private static void ranksAllRight(LabelLearner x) {
        int words = x.words(-1);
        long[] most = {Long.MIN_VALUE, Long.MIN_VALUE};
        String[] names = {"", ""};
        for (int number = 0; number < 1 << 2 * words; number++) {
            StringBuilder name = new StringBuilder();
            int packed = 0;
            for (int word = 0; word < words; word++) {
                int label = number >> 2 * (words - 1 - word) & 3;
                name.append((char) ('A' + label));
                packed |= label << 2 * word;
            }
            long score = x.score(-1, packed, false);
            if (score > most[0]) {
                most[1] = most[0];
                names[1] = names[0];
                most[0] = score;
                names[0] = name.toString();
            } else if (score > most[1]) {
                most[1] = score;
                names[1] = name.toString();
            }
        }
        decodesTo("best of all", x, false, names[0], most[0]);
        decodesTo("second of all", x, true, names[1], most[1]);
    }

    private static void mistakeIsAnyDifference() {
        CHECK.about("if that is not the one that it has in the corpus, it is a MISTAKE");
        CHECK.same("as found", Made.loaded("a/A b/A c/A d/A e/A f/A").learn(1), 0);
        String[] other = {"a/B b/A c/A d/A e/A f/A", "a/A b/A c/A d/A e/A f/B", "a/A b/A c/D d/A e/A f/A",
            "a/D b/D c/D d/D e/D f/D"};
        for (String corpus : other) {
            CHECK.same("not as found: " + corpus, Made.loaded(corpus).learn(1), 1);
        }
    }

    private static void sameLabelGrowsAndShrinks() {
        CHECK.about("grows by 1, and that with the label found is 1 less");
        LabelLearner x = Made.loaded("g/A b/B");
        x.learn(1);
        weightsAre("a word whose label was found right", x, 0, 0, 0, 0, 0);
        weightsAre("the first label was found right", x, 32, 0, 0, 0, 0);
        weightsAre("a word whose label was not", x, 27, -1, 1, 0, 0);
        weightsAre("AB, where AA was found", x, 33, -1, 1, 0, 0);
        CHECK.about("likewise with the first label, and with each two labels one behind the other");
        LabelLearner y = Made.loaded("a/D b/D c/D d/D e/D f/D");
        y.learn(1);
        weightsAre("five AA found", y, 33, -5, 0, 0, 0);
        weightsAre("five DD due", y, 36, 0, 0, 0, 5);
        weightsAre("one first label", y, 32, -1, 0, 0, 1);
        LabelLearner z = Made.loaded("a/D");
        z.learn(1);
        for (int a = 33; a < 37; a++) {
            weightsAre("no two labels in one word", z, a, 0, 0, 0, 0);
        }
    }

    private static void totalsGrowMistakeOrNot() {
        CHECK.about("Then (mistake or not) each weight is added to its TOTAL.");
        LabelLearner x = Made.loaded("a/B;a/B;z/A");
        x.learn(1);
        CHECK.same("the first a mistake, the second none, the third another one", x.weight(26, 1, true), 3);
        CHECK.same("the weight itself", x.weight(26, 1, false), 1);
        CHECK.same("first label: 1, 1 and 0", x.weight(32, 1, true), 2);
        CHECK.same("first label now", x.weight(32, 1, false), 0);
        LabelLearner y = Made.loaded("a/A");
        CHECK.same("never a mistake", y.learn(6), 0);
        CHECK.same("a total of 0", y.weight(26, 0, true), 0);
    }

    private static void passLearnsOneAfterTheOther() {
        CHECK.about("A PASS is to learn all sentences of the corpus, one after the other.");
        CHECK.same("the second knows what the first taught", Made.loaded("a/B;a/B").learn(1), 1);
        CHECK.same("eight of them", Made.loaded(row("a/B", ";", 8)).learn(1), 1);
        CHECK.same("the eighth is learnt", Made.loaded(row("a/A", ";", 7) + ";a/B").learn(1), 1);
        CHECK.same("the first is learnt first", Made.loaded("a/B;" + row("a/A", ";", 7)).learn(1), 2);
    }

    private static void latestDecodingIsKept() {
        CHECK.about("The latest DECODING of a sentence (by decode) is kept.");
        LabelLearner x = learnt("a/B;b/C a/D", 6, "b b");
        x.decode(1, false, false);
        CHECK.same("the first decoding", x.label(0) * 10 + x.label(1), 23);
        x.decode(0, false, false);
        CHECK.same("the latest decoding", x.label(0), 1);
        CHECK.refused("which has one word", IndexOutOfBoundsException.class, () -> x.label(1));
        CHECK.refused("a refused one", IndexOutOfBoundsException.class, () -> x.decode(2, false, false));
        CHECK.same("is not the latest", x.label(0), 1);
        x.learn(2);
        x.errors(true);
        x.score(1, 0, false);
        CHECK.same("nor is what is not by decode", x.label(0), 1);
        CHECK.refused("still of one word", IndexOutOfBoundsException.class, () -> x.label(1));
    }

    private static void firstNamedException() {
        CHECK.about("where several exceptions that a call names fit, it is the one that it names first");
        int[] wrong = {0, 7, -1, 8, Integer.MIN_VALUE, Integer.MAX_VALUE};
        for (int passes : wrong) {
            CHECK.throwsAndLeaves("learn(" + passes + "), no corpus", ARGUMENT, LabelLearner::new, x -> x.learn(passes));
            CHECK.throwsAndLeaves("learn(" + passes + "), a speech", ARGUMENT, () -> Made.spoken("a"),
                x -> x.learn(passes));
        }
        for (int passes = 1; passes <= 6; passes++) {
            int right = passes;
            CHECK.throwsAndLeaves("learn(" + passes + "), no corpus", STATE, LabelLearner::new, x -> x.learn(right));
            CHECK.throwsAndLeaves("learn(" + passes + "), a speech", STATE, () -> Made.spoken("a"), x -> x.learn(right));
        }
    }

    private static LabelLearner learnt(String corpus, int passes, String speech) {
        LabelLearner x = Made.loaded(corpus);
        x.learn(passes);
        Made.typeAll(x, speech);
        x.speak();
        return x;
    }

    private static void decodesTo(String what, LabelLearner x, boolean second, String labels, long score) {
        CHECK.same(what + ": score", x.decode(-1, false, second), score);
        StringBuilder found = new StringBuilder();
        for (int word = 0; word < labels.length(); word++) {
            found.append((char) ('A' + x.label(word)));
        }
        CHECK.same(what + ": labels", found.toString(), labels);
    }

    private static void weightsAre(String what, LabelLearner x, int a, long... due) {
        for (int b = 0; b < 4; b++) {
            CHECK.same(what + ": weight(" + a + ", " + b + ")", x.weight(a, b, false), due[b]);
        }
    }

    private static void bucketOfWordIs(String word, int due) {
        CHECK.same("bucket of " + word + " in a speech", Made.spoken(word).feature(-1, 0, 0), due);
        CHECK.same("bucket of " + word + ", not first", Made.spoken("b " + word).feature(-1, 1, 0), due);
        CHECK.same("bucket of " + word + " in a corpus", Made.loaded("b/B;c/C " + word + "/A").feature(1, 1, 0), due);
    }

    private static String row(String part, String between, int count) {
        return count == 0 ? "" : part + (between + part).repeat(count - 1);
    }

    private static String labelled(String words) {
        return words.replace(" ", "/C ") + "/D";
    }

    private static void isCorpusOnlyIf(boolean right, String text, int count) {
        if (right) {
            isCorpus(text, count);
        } else {
            isNoCorpus(text);
        }
    }

    private static void isSpeechOnlyIf(boolean right, String text, int count) {
        if (right) {
            isSpeech(text, count);
        } else {
            isNoSpeech(text);
        }
    }

    private static void isCorpus(String text, int count) {
        LabelLearner x = typed(text);
        try {
            CHECK.same("load of [" + text + "]", x.load(), count);
        } catch (IllegalArgumentException refused) {
            CHECK.wrong("load of [" + text + "] was refused");
        }
    }

    private static void isNoCorpus(String text) {
        CHECK.refused("load of [" + text + "]", ARGUMENT, typed(text)::load);
    }

    private static void isSpeech(String text, int count) {
        LabelLearner x = typed(text);
        try {
            CHECK.same("speak of [" + text + "]", x.speak(), count);
        } catch (IllegalArgumentException refused) {
            CHECK.wrong("speak of [" + text + "] was refused");
        }
    }

    private static void isNoSpeech(String text) {
        CHECK.refused("speak of [" + text + "]", ARGUMENT, typed(text)::speak);
    }

    private static LabelLearner typed(String text) {
        LabelLearner x = new LabelLearner();
        CHECK.same("typing of [" + text + "]", Made.typeAll(x, text), true);
        return x;
    }
}
