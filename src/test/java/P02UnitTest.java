/** Promise 2: signs of 32 .. 126 are collected, at most 30. */
public final class P02UnitTest {
    public static void main(String[] args) {
        Checks c = new Checks("promise 2");
        PipeForge x = new PipeForge();
        int[] others = {31, 127, 0, -1, 128, 256 + 102, Integer.MIN_VALUE, Integer.MAX_VALUE};
        for (int u : others) {
            c.due("unit(" + u + ")", x.unit(u), false);
        }
        c.due("told(2)", x.told(2), 0);
        for (int u = 32; u <= 126; u++) {
            PipeForge y = new PipeForge();
            c.due("unit(" + u + ")", y.unit(u), true);
            c.due("told(2)", y.told(2), 1);
        }
        for (int k = 0; k < 30; k++) {
            c.due("unit(" + (32 + k) + ")", x.unit(32 + k), true);
            c.due("told(2)", x.told(2), k + 1);
        }
        c.due("unit(102), the 31st", x.unit(102), false);
        c.due("unit(31), the 31st", x.unit(31), false);
        c.due("told(2)", x.told(2), 30);
        c.due("line()", x.line(), -1);
        c.due("told(2)", x.told(2), 0);
        c.due("unit(102) after line()", x.unit(102), true);

        // The line goes on while signs are collected.
        PipeForge y = new PipeForge();
        y.run(2);
        y.unit('f');
        c.due("cycle()", y.cycle(), 2);
        c.end();
    }
}
