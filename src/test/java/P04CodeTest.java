/** Promise 4: one more instruction, at most 40. */
public final class P04CodeTest {
    public static void main(String[] args) {
        Checks c = new Checks("promise 4");
        PipeForge x = new PipeForge();
        int[] kinds = {-1, 10, Integer.MIN_VALUE, Integer.MAX_VALUE};
        for (int kind : kinds) {
            c.due("code(" + kind + ", ..)", x.code(kind, 0, 0, 0, 0), PipeForge.BAD);
        }
        int[] registers = {-1, 8, Integer.MIN_VALUE, Integer.MAX_VALUE};
        for (int k : registers) {
            for (int kind = 0; kind <= 9; kind++) {
                c.due("D " + k, x.code(kind, k, 0, 0, 0), PipeForge.BAD);
                c.due("A " + k, x.code(kind, 0, k, 0, 0), PipeForge.BAD);
                c.due("B " + k, x.code(kind, 0, 0, k, 0), PipeForge.BAD);
            }
        }
        c.due("told(1)", x.told(1), 0);
        for (int k = 0; k < 40; k++) {
            c.due("code " + k, x.code(k % 10, k % 8, 7 - k % 8, k % 8, k * 1000000007), k);
            c.due("told(1)", x.told(1), k + 1);
        }
        c.due("the 41st", x.code(1, 0, 0, 0, 0), PipeForge.BAD);
        c.due("told(1)", x.told(1), 40);
        beginsAnew(c);
        lastInstructionCounts(c);
        c.end();
    }

    private static void beginsAnew(Checks c) {
        PipeForge x = new PipeForge();
        x.memory(4, 6);
        x.code(1, 3, 0, 0, 4);
        x.code(6, 0, 3, 3, 0);
        x.run(3000);
        int cycle = x.cycle();
        c.due("BAD", x.code(1, 8, 0, 0, 0), PipeForge.BAD);
        c.due("cycle() after BAD", x.cycle(), cycle);
        c.due("commits() after BAD", x.commits(), 2);
        c.due("place(4)", x.place(4), 4);
        c.due("code()", x.code(0, 0, 0, 0, 0), 2);
        c.begunAnew(x, "code()");
        c.due("place(4)", x.place(4), 6);
        PipeForge y = new PipeForge();
        for (int k = 0; k < 40; k++) {
            y.code(1, k % 8, 0, 0, k);
        }
        y.run(10);
        c.due("the 41st", y.code(1, 0, 0, 0, 0), PipeForge.BAD);
        c.due("cycle() after the 41st", y.cycle(), 10);
    }

    private static void lastInstructionCounts(Checks c) {
        PipeForge x = new PipeForge();
        for (int k = 0; k < 40; k++) {
            x.code(1, k % 8, 0, 0, 100 + k);
        }
        c.due("run(3000)", x.run(3000), 44);
        c.due("commits()", x.commits(), 40);
        for (int k = 0; k < 40; k++) {
            c.commit(x, k, 0, k % 8, 100 + k, 4 + k);
        }
        c.due("faithful()", x.faithful(), true);
    }
}
