/** Promise 9: a stop that fires w ends the line, and no other one. */
public final class P09EndedTest {
    public static void main(String[] args) {
        Checks c = new Checks("promise 9");
        PipeForge x = new PipeForge();
        x.code(0, 0, 0, 0, 0);
        x.code(1, 1, 0, 0, 1);
        for (int cycle = 1; cycle <= 5; cycle++) {
            x.run(1);
            c.due("ended() in cycle " + cycle, x.ended(), cycle >= 4);
        }
        c.due("commits(), none behind a stop", x.commits(), 0);
        c.due("retired()", x.retired(), 1);

        // A stop on the way that is not gone is thrown out.
        PipeForge y = new PipeForge();
        y.code(9, 0, 0, 0, 2);
        y.code(0, 0, 0, 0, 0);
        y.code(9, 0, 0, 0, 0);
        y.run(3000);
        c.due("ended(), never", y.ended(), false);

        // Numbers that there are not are stops, behind the last one and below 0.
        int[] far = {1, 2, 40, -1, -40, Integer.MIN_VALUE, Integer.MAX_VALUE};
        for (int goal : far) {
            PipeForge z = new PipeForge();
            z.code(9, 0, 0, 0, goal);
            c.due("run(3000) with a jump to " + goal, z.run(3000), 6);
            c.due("ended()", z.ended(), true);
            c.due("retired()", z.retired(), 2);
            c.due("faithful()", z.faithful(), true);
        }
        c.end();
    }
}
