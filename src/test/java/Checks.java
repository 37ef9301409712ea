/** Compares answers with those that are due, and makes the calls that many tests need. */
final class Checks {
    private final String title;
    private String sentence = "";
    private int askedBefore;
    private int asked;
    private int wrong;

    Checks(String title) {
        this.title = title;
    }

    /** From here on the checks are those of this sentence of the document. */
    void sentence(String words) {
        noSentenceWithoutCheck();
        sentence = " \"" + words + "\"";
        askedBefore = asked;
    }

    private void noSentenceWithoutCheck() {
        if (!sentence.isEmpty() && asked == askedBefore) {
            wrong++;
            System.out.println(title + sentence + ": has no check");
        }
    }

    void due(String call, long got, long want) {
        asked++;
        if (got != want) {
            wrong++;
            System.out.println(title + sentence + ": " + call + " answered " + got + ", due is " + want);
        }
    }

    void due(String call, boolean got, boolean want) {
        due(call, got ? 1 : 0, want ? 1 : 0);
    }

    void commit(PipeForge x, int k, int kind, int which, int value, int cycle) {
        due("commit(" + k + ", 0)", x.commit(k, 0), kind);
        due("commit(" + k + ", 1)", x.commit(k, 1), which);
        due("commit(" + k + ", 2)", x.commit(k, 2), value);
        due("commit(" + k + ", 3)", x.commit(k, 3), cycle);
    }

    void noCommit(PipeForge x, int k) {
        commit(x, k, PipeForge.NONE, PipeForge.NONE, PipeForge.NONE, PipeForge.NONE);
    }

    /** Everything that a begun-anew line answers, without memory that was told. */
    void begunAnew(PipeForge x, String when) {
        due(when + ": cycle()", x.cycle(), 0);
        due(when + ": ended()", x.ended(), false);
        due(when + ": commits()", x.commits(), 0);
        due(when + ": commit(0, 2)", x.commit(0, 2), PipeForge.NONE);
        due(when + ": retired()", x.retired(), 0);
        due(when + ": faithful()", x.faithful(), true);
        for (int k = 0; k < 8; k++) {
            due(when + ": register(" + k + ")", x.register(k), 0);
        }
    }

    /** Every question, put to two objects that must answer alike. */
    void alike(String when, PipeForge x, PipeForge y) {
        due(when + ": cycle()", x.cycle(), y.cycle());
        due(when + ": ended()", x.ended(), y.ended());
        due(when + ": commits()", x.commits(), y.commits());
        due(when + ": retired()", x.retired(), y.retired());
        due(when + ": faithful()", x.faithful(), y.faithful());
        for (int k = 0; k < y.commits() && k < 1000; k++) {
            for (int what = 0; what < 4; what++) {
                due(when + ": commit(" + k + ", " + what + ")", x.commit(k, what), y.commit(k, what));
            }
        }
        for (int k = 0; k < 8; k++) {
            due(when + ": register(" + k + ")", x.register(k), y.register(k));
        }
        for (int k = 0; k < 64; k++) {
            due(when + ": place(" + k + ")", x.place(k), y.place(k));
        }
        for (int what = 0; what <= 10; what++) {
            due(when + ": told(" + what + ")", x.told(what), y.told(what));
        }
    }

    static int line(PipeForge x, String text) {
        for (int k = 0; k < text.length(); k++) {
            x.unit(text.charAt(k));
        }
        return x.line();
    }

    /** A new object with this line. */
    static PipeForge on(String text) {
        PipeForge x = new PipeForge();
        line(x, text);
        return x;
    }

    void end() {
        noSentenceWithoutCheck();
        System.out.println(title + ": " + (asked - wrong) + " of " + asked + " answers are as due");
        if (wrong != 0) {
            System.exit(1);
        }
    }
}
