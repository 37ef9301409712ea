/** Promise 15: the commits are those of the program one by one. ModelTest looks at many programs more. */
public final class P15FaithfulTest {
    private static final String[] LINES = {"frxvq/aw", "fr/xvq/a/w", "fr/xyvq/a/w", "f/r/xy/v/q/a/w", "f/r/x/y/v/q/a/w",
        "frxy/v/q/a/w", "frx/v/q/a/y/w"};

    public static void main(String[] args) {
        Checks c = new Checks("promise 15");
        for (String text : LINES) {
            sumsAndStores(c, text);
            endless(c, text);
        }
        c.due("faithful() without a program", new PipeForge().faithful(), true);
        c.end();
    }

    /** Adds up 5, 4, .. 1 through a place of memory, with a store and a load of it in each round. */
    private static void sumsAndStores(Checks c, String text) {
        PipeForge x = new PipeForge();
        Checks.line(x, text);
        x.code(1, 1, 0, 0, 5);
        x.code(1, 2, 0, 0, 1);
        x.code(7, 0, 1, 0, 8);
        x.code(5, 3, 0, 0, 9);
        x.code(2, 3, 3, 1, 0);
        x.code(6, 0, 0, 3, 9);
        x.code(3, 1, 1, 2, 0);
        x.code(9, 0, 0, 0, 2);
        x.code(5, 4, 0, 0, 9);
        x.code(8, 0, 4, 0, 0);
        x.memory(9, 100);
        x.latency(1, 6);
        for (int k = 0; k < 40 && !x.ended(); k++) {
            x.run(7);
            c.due(text + ": faithful() in cycle " + x.cycle(), x.faithful(), true);
        }
        c.due(text + ": ended()", x.ended(), true);
        c.due(text + ": commits()", x.commits(), 2 + 5 * 4 + 2);
        c.due(text + ": place(9)", x.place(9), 115);
        c.due(text + ": the last one goes out", x.commit(23, 0), 2);
        c.due(text + ": with the sum", x.commit(23, 2), 115);
        c.due(text + ": faithful()", x.faithful(), true);
    }

    /** Rounds with many branches, of which only the first 1,000 commits are looked at; and one without a commit. */
    private static void endless(Checks c, String text) {
        PipeForge x = new PipeForge();
        Checks.line(x, text);
        x.code(1, 1, 0, 0, 1);
        x.code(2, 0, 0, 1, 0);
        for (int k = 2; k < 39; k++) {
            x.code(9, 0, 0, 0, k + 1);
        }
        x.code(9, 0, 0, 0, 1);
        for (int k = 0; k < 60; k++) {
            x.run(3000);
        }
        c.due(text + ": commits()", x.commits() > 600, true);
        c.due(text + ": faithful()", x.faithful(), true);
        PipeForge y = new PipeForge();
        Checks.line(y, text);
        y.code(9, 0, 0, 0, 0);
        y.run(3000);
        c.due(text + ": commits()", y.commits(), 0);
        c.due(text + ": faithful()", y.faithful(), true);
    }
}
