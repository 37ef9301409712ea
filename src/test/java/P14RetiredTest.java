/** Promise 14: how many threads went the whole line; those thrown out did not. */
public final class P14RetiredTest {
    public static void main(String[] args) {
        Checks c = new Checks("promise 14");
        for (int kind = 0; kind <= 9; kind++) {
            PipeForge x = new PipeForge();
            x.code(kind, 1, 2, 3, 1);
            x.run(3000);
            c.due("retired() of kind " + kind, x.retired(), kind == 0 ? 1 : 2);
        }
        PipeForge y = new PipeForge();
        y.code(1, 1, 0, 0, 1);
        y.code(1, 2, 0, 0, 1);
        y.code(7, 0, 1, 2, 6);
        y.code(8, 0, 1, 0, 0);
        y.code(8, 0, 1, 0, 0);
        y.code(8, 0, 1, 0, 0);
        for (int cycle = 1; cycle <= 3; cycle++) {
            y.run(1);
            c.due("retired() in cycle " + cycle, y.retired(), 0);
        }
        y.run(1);
        c.due("retired() in cycle 4", y.retired(), 1);
        y.run(3000);
        c.due("retired()", y.retired(), 4);
        c.due("commits()", y.commits(), 2);
        y.latency(3, 3);
        c.due("retired() begun anew", y.retired(), 0);
        c.end();
    }
}
