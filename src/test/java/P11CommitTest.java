/** Promise 11: kind, which one, value and cycle of each of the first 1,000 commits. */
public final class P11CommitTest {
    public static void main(String[] args) {
        Checks c = new Checks("promise 11");
        PipeForge x = new PipeForge();
        c.noCommit(x, 0);
        x.code(1, 7, 0, 0, -9);
        x.code(6, 3, 7, 7, 4);
        x.code(8, 5, 7, 2, 6);
        x.run(3000);
        c.commit(x, 0, 0, 7, -9, 4);
        c.commit(x, 1, 1, 59, -9, 8);
        c.commit(x, 2, 2, 0, -9, 9);
        c.noCommit(x, 3);
        c.noCommit(x, -1);
        c.noCommit(x, Integer.MIN_VALUE);
        c.noCommit(x, Integer.MAX_VALUE);
        int[] parts = {-1, 4, Integer.MIN_VALUE, Integer.MAX_VALUE};
        for (int what : parts) {
            c.due("commit(0, " + what + ")", x.commit(0, what), PipeForge.NONE);
            c.due("commit(1, " + what + ")", x.commit(1, what), PipeForge.NONE);
        }

        // NONE may be a value, too.
        PipeForge y = new PipeForge();
        y.code(1, 2, 0, 0, -2);
        y.run(3000);
        c.commit(y, 0, 0, 2, -2, 4);
        onlyTheFirst(c);
        c.end();
    }

    private static void onlyTheFirst(Checks c) {
        PipeForge x = new PipeForge();
        x.code(1, 1, 0, 0, 1);
        x.code(2, 0, 0, 1, 0);
        x.code(9, 0, 0, 0, 1);
        for (int k = 0; k < 3; k++) {
            x.run(3000);
        }
        c.due("more than 1,000", x.commits() > 1500, true);
        c.due("commit(999, 2)", x.commit(999, 2), 999);
        c.due("commit(998, 2)", x.commit(998, 2), 998);
        c.due("commit(999, 1)", x.commit(999, 1), 0);
        c.noCommit(x, 1000);
        c.noCommit(x, x.commits() - 1);
        c.due("register(0)", x.register(0), x.commits() - 1);
        c.due("faithful()", x.faithful(), true);
        x.memory(0, 0);
        c.noCommit(x, 0);
        x.run(4);
        c.commit(x, 0, 0, 1, 1, 4);
        c.noCommit(x, 1);
    }
}
