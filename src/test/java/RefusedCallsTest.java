import java.util.LinkedHashMap;
import java.util.Map;
import java.util.function.ToIntFunction;

/** A call that is refused changes nothing, in whatever cycle it comes: a twin without it goes on alike. */
public final class RefusedCallsTest {
    private static final int BAD = PipeForge.BAD;
    private static final int NONE = PipeForge.NONE;
    private static final int MIN = Integer.MIN_VALUE;
    private static final int MAX = Integer.MAX_VALUE;
    private static final int FALSE = 0;

    private final Checks c = new Checks("refused calls");
    private final Map<String, ToIntFunction<PipeForge>> calls = new LinkedHashMap<>();
    private final Map<String, Integer> answers = new LinkedHashMap<>();

    public static void main(String[] args) {
        new RefusedCallsTest().all();
    }

    private void all() {
        changes();
        questions();
        for (String call : calls.keySet()) {
            for (int cycles = 0; cycles <= 18; cycles++) {
                compare(call, running(cycles, 3), running(cycles, 3));
            }
        }
        full();
        c.end();
    }

    private void refuses(String call, int answer, ToIntFunction<PipeForge> made) {
        calls.put(call, made);
        answers.put(call, answer);
    }

    private static int asNumber(boolean answer) {
        return answer ? 1 : 0;
    }

    private void changes() {
        int[] noSigns = {MIN, 31, 127, MAX};
        for (int u : noSigns) {
            refuses("unit(" + u + ")", FALSE, x -> asNumber(x.unit(u)));
        }
        int[] noKinds = {MIN, -1, 10, MAX};
        for (int k : noKinds) {
            refuses("code, kind " + k, BAD, x -> x.code(k, 0, 0, 0, 0));
        }
        int[] noRegisters = {MIN, -1, 8, MAX};
        for (int k : noRegisters) {
            refuses("code, D " + k, BAD, x -> x.code(1, k, 0, 0, 0));
            refuses("code, A " + k, BAD, x -> x.code(8, 0, k, 0, 0));
            refuses("code, B " + k, BAD, x -> x.code(2, 0, 0, k, 0));
            refuses("latency(" + k + ", 1)", FALSE, x -> asNumber(x.latency(k, 1)));
        }
        int[] noPlaces = {MIN, -1, 64, MAX};
        for (int k : noPlaces) {
            refuses("memory(" + k + ", 5)", FALSE, x -> asNumber(x.memory(k, 5)));
        }
        int[] noLatencies = {MIN, 0, 17, MAX};
        for (int cycles : noLatencies) {
            refuses("latency(7, " + cycles + ")", FALSE, x -> asNumber(x.latency(7, cycles)));
        }
        int[] noRuns = {MIN, -1, 0, 3001, MAX};
        for (int cycles : noRuns) {
            refuses("run(" + cycles + ")", BAD, x -> x.run(cycles));
        }
    }

    private void questions() {
        int[] noCommits = {MIN, -1, 5, 999, 1000, 1001, MAX};
        for (int k : noCommits) {
            refuses("commit(" + k + ", 0)", NONE, x -> x.commit(k, 0));
        }
        int[] noParts = {MIN, -1, 4, MAX};
        for (int what : noParts) {
            refuses("commit(0, " + what + ")", NONE, x -> x.commit(0, what));
        }
        int[] noRegisters = {MIN, -1, 8, MAX};
        for (int k : noRegisters) {
            refuses("register(" + k + ")", BAD, x -> x.register(k));
        }
        int[] noPlaces = {MIN, -1, 64, MAX};
        for (int k : noPlaces) {
            refuses("place(" + k + ")", BAD, x -> x.place(k));
        }
        int[] nothingTold = {MIN, -1, 11, MAX};
        for (int what : nothingTold) {
            refuses("told(" + what + ")", BAD, x -> x.told(what));
        }
    }

    /** Five commits, a late load and a branch that goes on; behind the cycles so many signs are collected. */
    private static PipeForge running(int cycles, int signs) {
        PipeForge x = new PipeForge();
        x.code(1, 7, 0, 0, 6);
        x.code(6, 0, 0, 7, 63);
        x.code(5, 1, 0, 0, 63);
        x.code(7, 0, 2, 3, 5);
        x.code(8, 0, 7, 0, 0);
        x.code(3, 2, 7, 1, 0);
        x.code(8, 0, 2, 0, 0);
        x.memory(0, 5);
        x.memory(63, 8);
        x.latency(7, 3);
        for (int k = 0; k < cycles; k++) {
            x.run(1);
        }
        for (int k = 0; k < signs; k++) {
            x.unit("fr/".charAt(k % 3));
        }
        return x;
    }

    private void compare(String call, PipeForge x, PipeForge twin) {
        int cycle = x.cycle();
        c.due(call + " in cycle " + cycle, calls.get(call).applyAsInt(x), answers.get(call));
        String when = call + " in cycle " + cycle;
        c.alike(when, x, twin);
        c.due(when + ": run(2)", x.run(2), twin.run(2));
        c.alike(when, x, twin);
        c.due(when + ": run(3000)", x.run(3000), twin.run(3000));
        c.alike(when, x, twin);
        c.due(when + ": line()", Checks.line(x, "xvq/aw"), Checks.line(twin, "xvq/aw"));
        c.alike(when, x, twin);
    }

    /** No room for a 31st sign, nor for a 41st instruction. */
    private void full() {
        refuses("the 31st sign", FALSE, x -> asNumber(x.unit('f')));
        refuses("the 41st instruction", BAD, x -> x.code(1, 1, 1, 1, 1));
        for (int cycles = 0; cycles <= 18; cycles++) {
            compare("the 31st sign", running(cycles, 30), running(cycles, 30));
            PipeForge x = withForty(cycles);
            compare("the 41st instruction", x, withForty(cycles));
        }
    }

    private static PipeForge withForty(int cycles) {
        PipeForge x = running(0, 0);
        for (int k = 7; k < 40; k++) {
            x.code(2, k % 8, 7, 2, 0);
        }
        for (int k = 0; k < cycles; k++) {
            x.run(1);
        }
        return x;
    }
}
