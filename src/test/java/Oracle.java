import java.util.ArrayList;
import java.util.List;
import java.util.regex.Pattern;

/**
 * The document said a second time, as slowly and literally as can be: it keeps words as texts and tries every
 * labelling. It is what LabelLearner is compared with.
 */
final class Oracle {
    private static final String LABELLED = "[a-z]{1,6}/[A-D]";
    private static final String BARE = "[a-z]{1,6}";
    private static final Pattern CORPUS = Pattern.compile(sentence(LABELLED) + "(;" + sentence(LABELLED) + "){0,7}");
    private static final Pattern SPEECH = Pattern.compile(sentence(BARE));

    private static final class Line {
        private final List<String> words = new ArrayList<>();
        private final List<Integer> labels = new ArrayList<>();
        private int[][] buckets;
    }

    private String text = "";
    private List<Line> corpus = new ArrayList<>();
    private Line speech;
    private long[][] weights = new long[37][4];
    private long[][] totals = new long[37][4];
    private int mistakes;
    private int passes;
    private int[] kept;

    private static String sentence(String word) {
        return " *" + word + "( +" + word + "){0,5} *";
    }

    boolean type(long w, int n) {
        if (n < 1 || n > 8) {
            return false;
        }
        StringBuilder longer = new StringBuilder(text);
        for (int i = 0; i < n; i++) {
            longer.append((char) (w >> 8 * i & 0xff));
        }
        if (longer.length() > 240 || !longer.toString().matches("[ -~]*")) {
            return false;
        }
        text = longer.toString();
        return true;
    }

    boolean cut(int n) {
        if (n < 0 || n > text.length()) {
            return false;
        }
        text = text.substring(0, n);
        return true;
    }

    int load() {
        if (!CORPUS.matcher(text).matches()) {
            throw new IllegalArgumentException();
        }
        corpus = new ArrayList<>();
        for (String part : text.split(";")) {
            corpus.add(line(part));
        }
        text = "";
        weights = new long[37][4];
        totals = new long[37][4];
        mistakes = 0;
        passes = 0;
        kept = null;
        return corpus.size();
    }

    int speak() {
        if (!SPEECH.matcher(text).matches()) {
            throw new IllegalArgumentException();
        }
        speech = line(text);
        text = "";
        kept = null;
        return speech.words.size();
    }

    int sentences() {
        return corpus.size();
    }

    int words(int sentence) {
        return lineAt(sentence).words.size();
    }

    int given(int sentence, int word) {
        return corpus.get(sentence).labels.get(word);
    }

    int feature(int sentence, int word, int k) {
        Line line = lineAt(sentence);
        line.words.get(word);
        return line.buckets[word][k];
    }

    int learn(int count) {
        if (count < 1 || count > 6) {
            throw new IllegalArgumentException();
        }
        if (corpus.isEmpty()) {
            throw new IllegalStateException();
        }
        int wrong = -1;
        for (int i = 0; i < count && wrong != 0; i++) {
            wrong = 0;
            for (Line line : corpus) {
                wrong += learnLine(line) ? 1 : 0;
            }
            passes++;
            mistakes += wrong;
        }
        return wrong;
    }

    int mistakes() {
        return mistakes;
    }

    int passes() {
        return passes;
    }

    long weight(int a, int b, boolean total) {
        return (total ? totals : weights)[a][b];
    }

    long decode(int sentence, boolean byTotals, boolean second) {
        Line line = lineAt(sentence);
        long[][] by = byTotals ? totals : weights;
        int[] best = bestBut(line, by, null);
        kept = second ? bestBut(line, by, best) : best;
        return sum(line, kept, by);
    }

    int label(int word) {
        if (kept == null) {
            throw new IndexOutOfBoundsException();
        }
        return kept[word];
    }

    long score(int sentence, int labels, boolean byTotals) {
        Line line = lineAt(sentence);
        int[] row = new int[line.words.size()];
        for (int i = 0; i < row.length; i++) {
            row[i] = labels >> 2 * i & 3;
        }
        return sum(line, row, byTotals ? totals : weights);
    }

    int errors(boolean byTotals) {
        int wrong = 0;
        for (Line line : corpus) {
            int[] best = bestBut(line, byTotals ? totals : weights, null);
            for (int i = 0; i < best.length; i++) {
                wrong += best[i] != line.labels.get(i) ? 1 : 0;
            }
        }
        return wrong;
    }

    private Line lineAt(int sentence) {
        if (sentence == -1 && speech != null) {
            return speech;
        }
        return corpus.get(sentence);
    }

    private static Line line(String part) {
        Line line = new Line();
        for (String token : part.trim().split(" +")) {
            String[] halves = token.split("/");
            line.words.add(halves[0]);
            line.labels.add(halves.length > 1 ? halves[1].charAt(0) - 'A' : -1);
        }
        line.buckets = new int[line.words.size()][];
        for (int i = 0; i < line.buckets.length; i++) {
            String word = line.words.get(i);
            String ending = word.length() > 2 ? word.substring(word.length() - 2) : word;
            String before = i == 0 ? "" : line.words.get(i - 1);
            line.buckets[i] = new int[] {bucket(word), bucket("-" + ending), bucket("<" + before)};
        }
        return line;
    }

    private static int bucket(String characters) {
        int h = 7;
        for (int i = 0; i < characters.length(); i++) {
            h = h * 31 + characters.charAt(i);
        }
        return (h ^ h >>> 15) & 31;
    }

    private static long sum(Line line, int[] labels, long[][] by) {
        long sum = by[32][labels[0]];
        for (int i = 0; i < labels.length; i++) {
            for (int bucket : line.buckets[i]) {
                sum += by[bucket][labels[i]];
            }
        }
        for (int i = 1; i < labels.length; i++) {
            sum += by[33 + labels[i - 1]][labels[i]];
        }
        return sum;
    }

    /** Tries all labellings in the order of their labels, so that of equals the first one is better. */
    private static int[] bestBut(Line line, long[][] by, int[] but) {
        int[] best = null;
        long most = 0;
        int size = line.words.size();
        for (int number = 0; number < 1 << 2 * size; number++) {
            int[] labels = new int[size];
            for (int i = 0; i < size; i++) {
                labels[i] = number >> 2 * (size - 1 - i) & 3;
            }
            if (but != null && java.util.Arrays.equals(labels, but)) {
                continue;
            }
            long sum = sum(line, labels, by);
            if (best == null || sum > most) {
                best = labels;
                most = sum;
            }
        }
        return best;
    }

    private boolean learnLine(Line line) {
        int[] due = new int[line.words.size()];
        for (int i = 0; i < due.length; i++) {
            due[i] = line.labels.get(i);
        }
        int[] found = bestBut(line, weights, null);
        boolean mistake = !java.util.Arrays.equals(due, found);
        if (mistake) {
            grow(line, due, 1);
            grow(line, found, -1);
        }
        for (int a = 0; a < 37; a++) {
            for (int b = 0; b < 4; b++) {
                totals[a][b] += weights[a][b];
            }
        }
        return mistake;
    }

    private void grow(Line line, int[] labels, int more) {
        weights[32][labels[0]] += more;
        for (int i = 0; i < labels.length; i++) {
            for (int bucket : line.buckets[i]) {
                weights[bucket][labels[i]] += more;
            }
        }
        for (int i = 1; i < labels.length; i++) {
            weights[33 + labels[i - 1]][labels[i]] += more;
        }
    }
}
