/** Cycles worked out by hand from the document's terms. */
public final class TimingTest {
    public static void main(String[] args) {
        Checks c = new Checks("timing");
        waitsForCommit(c);
        readsWhatIsGiven(c);
        youngestWriterCounts(c);
        loadGivesLate(c);
        loadWaitsForStores(c);
        branches(c);
        ownRegister(c);
        c.end();
    }

    /** Without y a reader fires one cycle behind the commit. */
    private static void waitsForCommit(Checks c) {
        PipeForge x = Checks.on("fr/xvq/a/w");
        x.code(1, 1, 0, 0, 5);
        x.code(8, 0, 1, 0, 0);
        c.due("run", x.run(3000), 9);
        c.commit(x, 0, 0, 1, 5, 4);
        c.commit(x, 1, 2, 0, 5, 8);
        c.due("retired()", x.retired(), 3);
        PipeForge y = Checks.on("frxvq/aw");
        y.code(1, 1, 0, 0, 5);
        y.code(8, 0, 1, 0, 0);
        c.due("run", y.run(3000), 5);
        c.commit(y, 0, 0, 1, 5, 2);
        c.commit(y, 1, 2, 0, 5, 4);
    }

    private static void readsWhatIsGiven(Checks c) {
        // y fires in cycle 2, so the reader behind may read in cycle 3.
        PipeForge x = Checks.on("fr/xy/vq/a/w");
        x.code(1, 1, 0, 0, 5);
        x.code(2, 2, 1, 1, 0);
        x.code(8, 0, 2, 0, 0);
        c.due("run", x.run(3000), 10);
        c.commit(x, 0, 0, 1, 5, 5);
        c.commit(x, 1, 0, 2, 10, 7);
        c.commit(x, 2, 2, 0, 10, 9);
        // y in stage 0: no wait at all.
        PipeForge y = Checks.on("frxy/vq/a/w");
        y.code(1, 1, 0, 0, 5);
        y.code(2, 1, 1, 1, 0);
        y.code(4, 1, 1, 1, 0);
        c.due("run", y.run(3000), 7);
        c.commit(y, 0, 0, 1, 5, 4);
        c.commit(y, 1, 0, 1, 10, 5);
        c.commit(y, 2, 0, 1, 100, 6);
        // y beside w gives nothing before the commit.
        PipeForge z = Checks.on("fr/xvq/a/yw");
        z.code(1, 1, 0, 0, 5);
        z.code(8, 0, 1, 0, 0);
        c.due("run", z.run(3000), 9);
        c.commit(z, 1, 2, 0, 5, 8);
    }

    /** Two writers of one register stand in the line; the reader has what the younger one gives. */
    private static void youngestWriterCounts(Checks c) {
        PipeForge x = Checks.on("fr/xy/v/q/a/w");
        x.code(1, 1, 0, 0, 5);
        x.code(1, 1, 0, 0, 6);
        x.code(8, 0, 1, 0, 0);
        c.due("run", x.run(3000), 10);
        c.commit(x, 0, 0, 1, 5, 6);
        c.commit(x, 1, 0, 1, 6, 7);
        c.commit(x, 2, 2, 0, 6, 9);
        // The older writer commits in the very cycle in which the younger one's value is read.
        PipeForge y = Checks.on("fr/xy/v/q/a/w");
        y.code(1, 1, 0, 0, 5);
        y.code(8, 0, 0, 0, 0);
        y.code(8, 0, 0, 0, 0);
        y.code(1, 1, 0, 0, 6);
        y.code(8, 0, 1, 0, 0);
        c.due("run", y.run(3000), 12);
        c.commit(y, 0, 0, 1, 5, 6);
        c.commit(y, 3, 0, 1, 6, 9);
        c.commit(y, 4, 2, 0, 6, 11);
    }

    /** A load gives not before the stage of a, also with an early y. */
    private static void loadGivesLate(Checks c) {
        PipeForge x = Checks.on("frxy/vq/a/w");
        x.memory(3, 44);
        x.latency(3, 4);
        x.code(5, 1, 0, 0, 3);
        x.code(8, 0, 1, 0, 0);
        c.due("run", x.run(3000), 12);
        c.commit(x, 0, 0, 1, 44, 7);
        c.commit(x, 1, 2, 0, 44, 11);
    }

    private static void loadWaitsForStores(Checks c) {
        // The store's w is in cycle 4, so the load asks in cycle 5, of whatever place.
        PipeForge x = Checks.on("fr/xvq/a/w");
        x.code(6, 0, 0, 0, 9);
        x.code(5, 1, 0, 0, 10);
        c.due("run", x.run(3000), 8);
        c.commit(x, 0, 1, 9, 0, 4);
        c.commit(x, 1, 0, 1, 0, 7);
        // A younger store does not hold it, nor does an older load.
        PipeForge y = Checks.on("fr/xvq/a/w");
        y.code(5, 1, 0, 0, 10);
        y.code(5, 2, 0, 0, 10);
        y.code(6, 0, 0, 0, 10);
        c.due("run", y.run(3000), 7);
        c.commit(y, 1, 0, 2, 0, 5);
        c.commit(y, 2, 1, 10, 0, 6);
    }

    private static void branches(Checks c) {
        // v fires in cycle 2 and throws out the thread that came in it; the next one comes in cycle 3.
        PipeForge x = Checks.on("fr/xvq/a/w");
        x.code(9, 0, 0, 0, 2);
        x.code(8, 0, 0, 0, 0);
        x.code(8, 0, 0, 0, 0);
        c.due("run", x.run(3000), 7);
        c.commit(x, 0, 2, 0, 0, 6);
        c.due("commits()", x.commits(), 1);
        // A branch that is not taken costs nothing; one to the next instruction throws out all the same.
        PipeForge y = Checks.on("fr/xvq/a/w");
        y.code(1, 1, 0, 0, 1);
        y.code(7, 0, 2, 3, 2);
        y.code(7, 0, 0, 4, 3);
        c.due("run", y.run(3000), 9);
        PipeForge z = Checks.on("fr/xvq/a/w");
        z.code(1, 1, 0, 0, 1);
        z.code(7, 0, 1, 0, 0);
        c.due("run", z.run(3000), 9);
        // v in stage 0: nothing younger is there yet.
        PipeForge w = Checks.on("frxv/q/a/w");
        w.code(9, 0, 0, 0, 2);
        w.code(8, 0, 0, 0, 0);
        w.code(8, 0, 0, 0, 0);
        c.due("run", w.run(3000), 6);
        c.commit(w, 0, 2, 0, 0, 5);
        c.due("commits()", w.commits(), 1);
    }

    /** A thread never waits for itself, and D of a kind that does not commit it holds nobody. */
    private static void ownRegister(Checks c) {
        PipeForge x = Checks.on("fr/xvq/a/w");
        x.code(2, 1, 1, 1, 0);
        c.due("run", x.run(3000), 5);
        PipeForge y = Checks.on("fr/xvq/a/w");
        y.code(8, 3, 0, 0, 0);
        y.code(6, 3, 0, 0, 0);
        y.code(8, 0, 3, 0, 0);
        c.due("run", y.run(3000), 7);
        // Kind 5 and 8 do not read B; 0, 1 and 9 read nothing.
        PipeForge z = Checks.on("fr/xvq/a/w");
        z.code(1, 3, 0, 0, 1);
        z.code(5, 1, 0, 3, 0);
        z.code(8, 0, 0, 3, 0);
        z.code(1, 2, 3, 3, 0);
        z.code(0, 0, 3, 3, 0);
        c.due("run", z.run(3000), 8);
    }
}
