/** Promise 1: the line fr/xvq/a/w, no program, cycle 0. */
public final class P01NewObjectTest {
    public static void main(String[] args) {
        Checks c = new Checks("promise 1");
        PipeForge x = new PipeForge();
        c.begunAnew(x, "new");
        for (int k = 0; k < 64; k++) {
            c.due("place(" + k + ")", x.place(k), 0);
        }
        int[] stages = {4, 0, 0, 0, 0, 1, 1, 1, 2, 3, PipeForge.BAD};
        for (int k = 0; k < stages.length; k++) {
            c.due("told(" + k + ")", x.told(k), stages[k]);
        }
        // Without a program, instruction 0 is a stop, and it needs four cycles.
        c.due("run(3)", x.run(3), 3);
        c.due("ended()", x.ended(), false);
        c.due("run(3000)", x.run(3000), 4);
        c.due("ended()", x.ended(), true);
        c.due("retired()", x.retired(), 1);
        c.due("commits()", x.commits(), 0);

        // Two objects share nothing.
        PipeForge y = new PipeForge();
        c.begunAnew(y, "another");
        y.code(1, 1, 0, 0, 5);
        y.memory(2, 9);
        y.unit('f');
        c.due("told(1) of the first", x.told(1), 0);
        c.due("told(2) of the first", x.told(2), 0);
        c.due("place(2) of the first", x.place(2), 0);
        c.due("cycle() of the first", x.cycle(), 4);
        c.end();
    }
}
