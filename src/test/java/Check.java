/** Counts and prints the answers that are not the ones that are due. */
final class Check {
    interface Call {
        void make();
    }

    interface Deed {
        void doTo(LabelLearner x);
    }

    interface Question {
        boolean ask(LabelLearner x);
    }

    private int wrong;
    private String sentence = "";

    /** The sentence of the document that the next checks are about; it is printed with what is wrong. */
    void about(String sentence) {
        this.sentence = "[" + sentence + "] ";
    }

    void same(String what, long got, long due) {
        if (got != due) {
            wrong(what + " answered " + got + ", due is " + due);
        }
    }

    void same(String what, boolean got, boolean due) {
        if (got != due) {
            wrong(what + " answered " + got + ", due is " + due);
        }
    }

    void same(String what, Object got, Object due) {
        if (!due.equals(got)) {
            wrong(what + " answered " + got + ", due is " + due);
        }
    }

    void refused(String what, Class<? extends RuntimeException> due, Call call) {
        try {
            call.make();
        } catch (RuntimeException thrown) {
            if (thrown.getClass() != due) {
                wrong(what + " threw " + thrown + ", due is " + due.getSimpleName());
            }
            return;
        }
        wrong(what + " threw nothing, due is " + due.getSimpleName());
    }

    /** The deed is refused by that exception, and nothing can be seen of it behind. */
    void throwsAndLeaves(String what, Class<? extends RuntimeException> due, Seen.Maker maker, Deed deed) {
        refused(what, due, () -> deed.doTo(maker.make()));
        leaves(what, maker, deed);
    }

    /** The question is answered by false, and nothing can be seen of it behind. */
    void falseAndLeaves(String what, Seen.Maker maker, Question question) {
        same(what, question.ask(maker.make()), false);
        leaves(what, maker, question::ask);
    }

    /** Nothing can be seen of the deed behind it, whether it throws or not. */
    void leaves(String what, Seen.Maker maker, Deed deed) {
        seenAlike("behind " + what, () -> {
            LabelLearner x = maker.make();
            try {
                deed.doTo(x);
            } catch (RuntimeException refused) {
                return x;
            }
            return x;
        }, maker);
    }

    /** Two objects can't be told from one another. */
    void seenAlike(String what, Seen.Maker got, Seen.Maker due) {
        String[] gotParts = Seen.all(got).split("\n");
        String[] dueParts = Seen.all(due).split("\n");
        for (int i = 0; i < dueParts.length; i++) {
            same(what + ": the look at", gotParts[i], dueParts[i]);
        }
    }

    void wrong(String message) {
        wrong++;
        System.out.println(sentence + message);
    }

    int wrongs() {
        return wrong;
    }

    void end() {
        if (wrong > 0) {
            System.out.println(wrong + " answers are not as due");
            System.exit(1);
        }
    }
}
