/** Promise 7: at most so many cycles more. */
public final class P07RunTest {
    public static void main(String[] args) {
        Checks c = new Checks("promise 7");
        PipeForge x = new PipeForge();
        int[] other = {0, -1, 3001, Integer.MIN_VALUE, Integer.MAX_VALUE};
        for (int cycles : other) {
            c.due("run(" + cycles + ")", x.run(cycles), PipeForge.BAD);
        }
        c.due("cycle()", x.cycle(), 0);
        x.code(9, 0, 0, 0, 0);
        c.due("run(1)", x.run(1), 1);
        c.due("run(3000)", x.run(3000), 3001);
        c.due("run(2999)", x.run(2999), 6000);
        c.due("run(3001)", x.run(3001), PipeForge.BAD);
        c.due("cycle()", x.cycle(), 6000);
        c.due("ended()", x.ended(), false);

        // An ended line goes no further, and a bad number is bad there too.
        PipeForge y = new PipeForge();
        c.due("run(4)", y.run(4), 4);
        c.due("run(1)", y.run(1), 4);
        c.due("run(3000)", y.run(3000), 4);
        c.due("run(0)", y.run(0), PipeForge.BAD);
        c.due("retired()", y.retired(), 1);

        // Many short runs are one long run.
        PipeForge[] both = {new PipeForge(), new PipeForge()};
        for (PipeForge z : both) {
            z.code(1, 1, 0, 0, 3);
            z.code(2, 2, 2, 1, 0);
            z.code(8, 0, 2, 0, 0);
            z.code(9, 0, 0, 0, 1);
        }
        for (int k = 1; k <= 100; k++) {
            c.due("run(1)", both[0].run(1), k);
        }
        both[1].run(100);
        c.due("commits()", both[0].commits(), both[1].commits());
        c.due("retired()", both[0].retired(), both[1].retired());
        for (int k = 0; k < both[1].commits(); k++) {
            c.commit(both[0], k, both[1].commit(k, 0), both[1].commit(k, 1), both[1].commit(k, 2), both[1].commit(k, 3));
        }
        c.end();
    }
}
