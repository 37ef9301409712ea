/** Promise 6: how late the places answer whose number modulo 8 is k. */
public final class P06LatencyTest {
    public static void main(String[] args) {
        Checks c = new Checks("promise 6");
        PipeForge x = new PipeForge();
        int[][] none = {{-1, 1}, {8, 1}, {0, 0}, {0, 17}, {0, -1}, {Integer.MIN_VALUE, 1}, {7, Integer.MAX_VALUE}};
        for (int[] pair : none) {
            c.due("latency(" + pair[0] + ", " + pair[1] + ")", x.latency(pair[0], pair[1]), false);
        }
        everyPlace(c);

        x.code(1, 1, 0, 0, 7);
        x.code(6, 0, 0, 1, 5);
        x.memory(5, 2);
        x.run(3000);
        int cycle = x.cycle();
        c.due("latency(0, 17)", x.latency(0, 17), false);
        c.due("cycle() after False", x.cycle(), cycle);
        c.due("place(5) after False", x.place(5), 7);
        c.due("latency(0, 16)", x.latency(0, 16), true);
        c.begunAnew(x, "latency()");
        c.due("place(5), as told", x.place(5), 2);
        c.end();
    }

    /** A load alone asks in cycle 2 and commits one cycle after the answer. */
    private static void everyPlace(Checks c) {
        for (int cycles = 1; cycles <= 16; cycles++) {
            for (int place = 0; place < 64; place += 5) {
                PipeForge x = new PipeForge();
                x.code(5, 1, 0, 0, place);
                x.memory(place, 77);
                c.due("latency", x.latency(place % 8, cycles), true);
                c.due("latency of another", x.latency((place + 1) % 8, 16), true);
                x.run(3000);
                c.commit(x, 0, 0, 1, 77, 2 + cycles + 1);
            }
        }
        PipeForge y = new PipeForge();
        y.code(5, 1, 0, 0, -1);
        y.latency(7, 9);
        y.run(3000);
        c.commit(y, 0, 0, 1, 0, 12);
    }
}
