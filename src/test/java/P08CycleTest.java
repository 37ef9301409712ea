/** Promise 8: the cycle that was reached. */
public final class P08CycleTest {
    public static void main(String[] args) {
        Checks c = new Checks("promise 8");
        PipeForge x = new PipeForge();
        c.due("cycle()", x.cycle(), 0);
        x.run(2);
        c.due("cycle()", x.cycle(), 2);
        x.run(0);
        c.due("cycle() after a bad run", x.cycle(), 2);
        x.run(3000);
        c.due("cycle() at the end", x.cycle(), 4);
        x.run(3000);
        c.due("cycle() behind the end", x.cycle(), 4);
        x.memory(0, 0);
        c.due("cycle() begun anew", x.cycle(), 0);
        c.end();
    }
}
