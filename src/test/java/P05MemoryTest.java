/** Promise 5: the value of a place when the line begins. */
public final class P05MemoryTest {
    public static void main(String[] args) {
        Checks c = new Checks("promise 5");
        PipeForge x = new PipeForge();
        int[] none = {-1, 64, 65, Integer.MIN_VALUE, Integer.MAX_VALUE};
        for (int place : none) {
            c.due("memory(" + place + ", 1)", x.memory(place, 1), false);
        }
        for (int k = 0; k < 64; k++) {
            c.due("memory(" + k + ", ..)", x.memory(k, k * k - 5), true);
        }
        for (int k = 0; k < 64; k++) {
            c.due("place(" + k + ")", x.place(k), k * k - 5);
        }
        c.due("memory(3, MIN)", x.memory(3, Integer.MIN_VALUE), true);
        c.due("place(3)", x.place(3), Integer.MIN_VALUE);

        x.code(5, 2, 0, 0, 63);
        x.code(6, 0, 0, 2, 9);
        x.run(3000);
        c.due("register(2)", x.register(2), 63 * 63 - 5);
        c.due("place(9)", x.place(9), 63 * 63 - 5);
        int cycle = x.cycle();
        c.due("memory(64, 0)", x.memory(64, 0), false);
        c.due("cycle() after False", x.cycle(), cycle);
        c.due("place(9) after False", x.place(9), 63 * 63 - 5);
        c.due("memory(10, 1)", x.memory(10, 1), true);
        c.begunAnew(x, "memory()");
        c.due("place(9), as told", x.place(9), 76);
        c.due("place(10), as told", x.place(10), 1);
        x.run(3000);
        c.due("faithful()", x.faithful(), true);
        c.due("place(9), committed again", x.place(9), 63 * 63 - 5);
        c.end();
    }
}
