/** A line that begins anew knows nothing of the cycles before, not even when a cycle's number comes again. */
public final class BeginAnewTest {
    public static void main(String[] args) {
        Checks c = new Checks("begin anew");
        oldCommitHoldsNoReader(c);
        oldStoreHoldsNoLoad(c);
        sameAgain(c);
        c.end();
    }

    /** The branch at 1 goes on at 3 if place 0 holds 0; instruction 2 would be committed in cycle 9. */
    private static PipeForge skipping(int kind, int d) {
        PipeForge x = new PipeForge();
        x.code(5, 1, 0, 0, 0);
        x.code(7, 0, 1, 0, 3);
        x.code(kind, d, 0, 0, 7);
        x.code(8, 0, 0, 0, 0);
        return x;
    }

    private static void oldCommitHoldsNoReader(Checks c) {
        PipeForge x = skipping(1, 2);
        x.code(8, 0, 0, 0, 0);
        x.code(8, 0, 2, 0, 0);
        x.memory(0, 1);
        x.run(9);
        c.commit(x, 1, 0, 2, 7, 9);
        x.memory(0, 0);
        x.run(3000);
        c.commit(x, 3, 2, 0, 0, 12);
    }

    private static void oldStoreHoldsNoLoad(Checks c) {
        PipeForge x = skipping(6, 0);
        x.code(5, 3, 0, 0, 9);
        x.memory(0, 1);
        x.run(9);
        c.commit(x, 1, 1, 7, 0, 9);
        x.memory(0, 0);
        x.run(3000);
        c.commit(x, 2, 0, 3, 0, 11);
    }

    private static void sameAgain(Checks c) {
        PipeForge x = skipping(1, 2);
        x.run(3000);
        int cycle = x.cycle();
        int commits = x.commits();
        for (int k = 1; k < cycle; k++) {
            x.memory(1, 0);
            x.run(k);
            x.memory(1, 0);
            c.begunAnew(x, "behind cycle " + k);
            c.due("run(3000) again", x.run(3000), cycle);
            c.due("commits() again", x.commits(), commits);
        }
    }
}
