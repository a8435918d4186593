/** Counts and prints the answers that are not the ones that are due. */
final class Check {
    interface Call {
        void make();
    }

    private int wrong;

    void same(String what, long got, long due) {
        if (got != due) {
            wrong(what + " answered " + got + ", due is " + due);
        }
    }

    void same(String what, boolean got, boolean due) {
        if (got != due) {
            wrong(what + " answered " + got + ", due is " + due);
        }
    }

    void same(String what, Object got, Object due) {
        if (!due.equals(got)) {
            wrong(what + " answered " + got + ", due is " + due);
        }
    }

    void refused(String what, Class<? extends RuntimeException> due, Call call) {
        try {
            call.make();
        } catch (RuntimeException thrown) {
            if (thrown.getClass() != due) {
                wrong(what + " threw " + thrown + ", due is " + due.getSimpleName());
            }
            return;
        }
        wrong(what + " threw nothing, due is " + due.getSimpleName());
    }

    void wrong(String message) {
        wrong++;
        System.out.println(message);
    }

    int wrongs() {
        return wrong;
    }

    void end() {
        if (wrong > 0) {
            System.out.println(wrong + " answers are not as due");
            System.exit(1);
        }
    }

    /** Types a text in pieces of up to eight characters. */
    static boolean typeAll(LabelLearner x, String text) {
        boolean all = true;
        for (int from = 0; from < text.length(); from += 8) {
            String piece = text.substring(from, Math.min(text.length(), from + 8));
            all &= x.type(packed(piece), piece.length());
        }
        return all;
    }

    static long packed(String piece) {
        long w = 0;
        for (int i = piece.length() - 1; i >= 0; i--) {
            w = w << 8 | piece.charAt(i);
        }
        return w;
    }

    static LabelLearner loaded(String corpus) {
        LabelLearner x = new LabelLearner();
        typeAll(x, corpus);
        x.load();
        return x;
    }

    static LabelLearner spoken(String speech) {
        LabelLearner x = new LabelLearner();
        typeAll(x, speech);
        x.speak();
        return x;
    }
}
