/** Promise 10: how many commits there were, beyond the first 1,000 too. */
public final class P10CommitsTest {
    public static void main(String[] args) {
        Checks c = new Checks("promise 10");
        PipeForge x = new PipeForge();
        for (int kind = 0; kind <= 9; kind++) {
            PipeForge y = new PipeForge();
            y.code(kind, 1, 2, 3, 1);
            y.run(3000);
            c.due("commits() of kind " + kind, y.commits(), kind == 0 || kind == 7 || kind == 9 ? 0 : 1);
        }
        x.code(1, 1, 0, 0, 4);
        x.code(9, 0, 0, 0, 0);
        // The jump fires v two cycles behind the number's entry, so a round is three cycles long.
        x.run(3000);
        c.due("commits()", x.commits(), 999);
        x.run(3000);
        c.due("commits()", x.commits(), 1999);
        x.run(3000);
        c.due("commits()", x.commits(), 2999);
        x.latency(1, 1);
        c.due("commits() begun anew", x.commits(), 0);
        c.end();
    }
}
