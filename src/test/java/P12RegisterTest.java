/** Promise 12: a register, as it was committed. */
public final class P12RegisterTest {
    public static void main(String[] args) {
        Checks c = new Checks("promise 12");
        PipeForge x = new PipeForge();
        int[] none = {-1, 8, Integer.MIN_VALUE, Integer.MAX_VALUE};
        for (int k : none) {
            c.due("register(" + k + ")", x.register(k), PipeForge.BAD);
        }
        x.code(1, 0, 0, 0, 100000);
        x.code(1, 1, 0, 0, -7);
        x.code(2, 2, 0, 1, 55);
        x.code(3, 3, 0, 1, 55);
        x.code(3, 4, 1, 0, 55);
        x.code(4, 5, 0, 0, 55);
        x.memory(57, -1);
        x.code(5, 6, 1, 0, 0);
        x.code(2, 7, 5, 5, 0);
        c.due("run(3)", x.run(3), 3);
        c.due("register(0) before its commit", x.register(0), 0);
        c.due("run(1)", x.run(1), 4);
        c.due("register(0) in its cycle", x.register(0), 100000);
        c.due("register(1)", x.register(1), 0);
        x.run(3000);
        int[] values = {100000, -7, 99993, 100007, -100007, 1410065408, -1, -1474836480};
        for (int k = 0; k < 8; k++) {
            c.due("register(" + k + ")", x.register(k), values[k]);
        }
        // Kinds without D leave it alone.
        int[] without = {0, 6, 7, 8, 9};
        for (int kind : without) {
            PipeForge y = new PipeForge();
            y.code(1, 3, 0, 0, 5);
            y.code(kind, 3, 1, 2, 2);
            y.run(3000);
            c.due("register(3) behind kind " + kind, y.register(3), 5);
        }
        c.end();
    }
}
