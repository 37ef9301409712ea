/** Promise 13: a place of memory, as it was committed. */
public final class P13PlaceTest {
    public static void main(String[] args) {
        Checks c = new Checks("promise 13");
        PipeForge x = new PipeForge();
        int[] none = {-1, 64, Integer.MIN_VALUE, Integer.MAX_VALUE};
        for (int k : none) {
            c.due("place(" + k + ")", x.place(k), PipeForge.BAD);
        }
        x.code(1, 1, 0, 0, 12);
        x.code(6, 0, 0, 1, -1);
        c.due("run(7)", x.run(7), 7);
        c.due("place(63) before its commit", x.place(63), 0);
        x.run(1);
        c.due("place(63) in its cycle", x.place(63), 12);

        // A + I in 32 bits, modulo 64, never below 0.
        int[] bases = {0, 1, 63, 64, -1, -64, Integer.MAX_VALUE, Integer.MIN_VALUE, 1000};
        int[] steps = {0, 1, 63, 64, -1, -65, Integer.MAX_VALUE, Integer.MIN_VALUE, -1000};
        for (int base : bases) {
            for (int step : steps) {
                PipeForge y = new PipeForge();
                y.code(1, 1, 0, 0, base);
                y.code(6, 0, 1, 1, step);
                y.code(5, 2, 1, 0, step);
                y.run(3000);
                int place = base + step & 63;
                c.due("commit(1, 1) of " + base + " + " + step, y.commit(1, 1), place);
                for (int k = 0; k < 64; k++) {
                    c.due("place(" + k + ")", y.place(k), k == place ? base : 0);
                }
                c.due("register(2)", y.register(2), base);
            }
        }
        c.end();
    }
}
