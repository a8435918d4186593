import java.util.Random;

/** Runs of 512 drawn calls, each answered by LabelLearner and by the Oracle alike. The seeds are fixed. */
public final class OracleTest {
    private static final int RUNS = 120;
    private static final int CALLS = 512;
    private static final int MOST_PRINTED = 20;

    private interface Answer {
        long get();
    }

    private final Check check;
    private final Random random;
    private final int run;
    private final LabelLearner x = new LabelLearner();
    private final Oracle due = new Oracle();

    private OracleTest(Check check, int run) {
        this.check = check;
        this.run = run;
        random = new Random(run);
    }

    public static void main(String[] args) {
        Check check = new Check();
        for (int run = 0; run < RUNS && check.wrongs() < MOST_PRINTED; run++) {
            new OracleTest(check, run).go();
        }
        check.end();
    }

    private void go() {
        int calls = 0;
        while (calls < CALLS && check.wrongs() < MOST_PRINTED) {
            int kind = random.nextInt(100);
            if (kind < 3) {
                calls += enter(text(true), true);
            } else if (kind < 6) {
                calls += enter(text(false), false);
            } else {
                ask(kind);
                calls++;
            }
        }
    }

    private int enter(String text, boolean corpus) {
        boolean emptied = random.nextInt(8) > 0;
        if (emptied) {
            compare("cut(0)", () -> x.cut(0) ? 1 : 0, () -> due.cut(0) ? 1 : 0);
        }
        int calls = 2;
        for (int from = 0; from < text.length(); calls++) {
            int n = Math.min(text.length() - from, 1 + random.nextInt(8));
            type(Made.packed(text.substring(from, from + n)), n);
            from += n;
        }
        if (corpus) {
            compare("load()", x::load, due::load);
        } else {
            compare("speak()", x::speak, due::speak);
        }
        return calls;
    }

    private void ask(int kind) {
        int sentence = random.nextInt(10) - 1 - random.nextInt(2);
        int word = random.nextInt(8) - 1;
        boolean one = random.nextBoolean();
        boolean other = random.nextBoolean();
        if (kind < 8) {
            type(random.nextLong(), random.nextInt(11) - 1);
        } else if (kind < 10) {
            int n = random.nextInt(20) - 2;
            compare("cut(" + n + ")", () -> x.cut(n) ? 1 : 0, () -> due.cut(n) ? 1 : 0);
        } else if (kind < 12) {
            compare("load()", x::load, due::load);
        } else if (kind < 14) {
            compare("speak()", x::speak, due::speak);
        } else if (kind < 17) {
            int passes = random.nextInt(9) - 1;
            compare("learn(" + passes + ")", () -> x.learn(passes), () -> due.learn(passes));
        } else if (kind < 19) {
            compare("mistakes()", x::mistakes, due::mistakes);
            compare("passes()", x::passes, due::passes);
        } else if (kind < 23) {
            compare("sentences()", x::sentences, due::sentences);
            compare("words(" + sentence + ")", () -> x.words(sentence), () -> due.words(sentence));
        } else if (kind < 28) {
            compare("given(" + sentence + ", " + word + ")", () -> x.given(sentence, word), () -> due.given(sentence, word));
        } else if (kind < 35) {
            int k = random.nextInt(5) - 1;
            compare("feature(" + sentence + ", " + word + ", " + k + ")", () -> x.feature(sentence, word, k),
                () -> due.feature(sentence, word, k));
        } else if (kind < 50) {
            int a = random.nextInt(39) - 1;
            int b = random.nextInt(6) - 1;
            compare("weight(" + a + ", " + b + ", " + one + ")", () -> x.weight(a, b, one), () -> due.weight(a, b, one));
        } else if (kind < 68) {
            compare("decode(" + sentence + ", " + one + ", " + other + ")", () -> x.decode(sentence, one, other),
                () -> due.decode(sentence, one, other));
        } else if (kind < 85) {
            compare("label(" + word + ")", () -> x.label(word), () -> due.label(word));
        } else if (kind < 95) {
            int labels = random.nextInt();
            compare("score(" + sentence + ", " + labels + ", " + one + ")", () -> x.score(sentence, labels, one),
                () -> due.score(sentence, labels, one));
        } else {
            compare("errors(" + one + ")", () -> x.errors(one), () -> due.errors(one));
        }
    }

    private void type(long w, int n) {
        compare("type(" + w + ", " + n + ")", () -> x.type(w, n) ? 1 : 0, () -> due.type(w, n) ? 1 : 0);
    }

    private void compare(String call, Answer got, Answer wanted) {
        check.same("run " + run + ": " + call, told(got), wanted(wanted));
    }

    private static String told(Answer answer) {
        try {
            return Long.toString(answer.get());
        } catch (RuntimeException e) {
            return e.getClass().getSimpleName();
        }
    }

    /** The Oracle lets lists and arrays throw their own kinds of IndexOutOfBoundsException; LabelLearner must not. */
    private static String wanted(Answer answer) {
        return told(answer).replace("ArrayIndexOut", "IndexOut");
    }

    private String text(boolean corpus) {
        StringBuilder all = new StringBuilder();
        int parts = corpus ? 1 + random.nextInt(random.nextInt(6) == 0 ? 10 : 5) : 1;
        for (int i = 0; i < parts; i++) {
            all.append(i == 0 ? "" : ";");
            addSentence(all, corpus);
        }
        if (random.nextInt(6) == 0) {
            all.insert(random.nextInt(all.length() + 1), " ;/ABaz~E".charAt(random.nextInt(9)));
        }
        if (random.nextInt(10) == 0) {
            all.deleteCharAt(random.nextInt(all.length()));
        }
        return all.toString();
    }

    private void addSentence(StringBuilder all, boolean labelled) {
        int words = 1 + random.nextInt(random.nextInt(20) == 0 ? 7 : 6);
        all.append(" ".repeat(random.nextInt(2)));
        for (int i = 0; i < words; i++) {
            all.append(i == 0 ? "" : " ".repeat(1 + random.nextInt(4) / 3));
            addWord(all);
            all.append(labelled ? "/" + (char) ('A' + random.nextInt(4)) : "");
        }
        all.append(" ".repeat(random.nextInt(2)));
    }

    /** Mostly of few letters, so that words come again and buckets are shared. */
    private void addWord(StringBuilder all) {
        int letters = 1 + random.nextInt(random.nextInt(40) == 0 ? 7 : 1 + random.nextInt(6));
        int kinds = random.nextBoolean() ? 3 : 26;
        for (int i = 0; i < letters; i++) {
            all.append((char) ('a' + random.nextInt(kinds)));
        }
    }
}
