/** Promise 16: stages, instructions, signs, and the stage of each action. */
public final class P16ToldTest {
    public static void main(String[] args) {
        Checks c = new Checks("promise 16");
        PipeForge x = new PipeForge();
        int[] other = {-1, 11, 12, Integer.MIN_VALUE, Integer.MAX_VALUE};
        for (int what : other) {
            c.due("told(" + what + ")", x.told(what), PipeForge.BAD);
        }
        row(c, x, new int[] {4, 0, 0, 0, 0, 1, 1, 1, 2, 3, -1});
        Checks.line(x, "f/r/x/y/v/q/a/w");
        row(c, x, new int[] {8, 0, 0, 0, 1, 2, 4, 5, 6, 7, 3});
        x.code(8, 0, 0, 0, 0);
        x.code(8, 0, 0, 0, 0);
        x.unit('f');
        x.unit('r');
        x.unit('?');
        row(c, x, new int[] {8, 2, 3, 0, 1, 2, 4, 5, 6, 7, 3});
        x.line();
        row(c, x, new int[] {8, 2, 0, 0, 1, 2, 4, 5, 6, 7, 3});
        Checks.line(x, "frxv/q/ayw");
        row(c, x, new int[] {3, 2, 0, 0, 0, 0, 0, 1, 2, 2, 2});
        Checks.line(x, "frxvq/aw");
        row(c, x, new int[] {2, 2, 0, 0, 0, 0, 0, 0, 1, 1, -1});
        c.end();
    }

    private static void row(Checks c, PipeForge x, int[] want) {
        for (int k = 0; k < want.length; k++) {
            c.due("told(" + k + ")", x.told(k), want[k]);
        }
    }
}
