import java.util.ArrayList;
import java.util.Arrays;
import java.util.List;
import java.util.Random;

/** Calls in any order with any arguments, each answer compared; always the same calls. */
public final class AnyCallsTest {
    private static final int OBJECTS = 1500;
    private static final int CALLS = 512;
    private static final int[] EDGES = {Integer.MIN_VALUE, Integer.MIN_VALUE + 1, -65, -64, -2, -1, 0, 1, 2, 7, 8, 9, 10,
        11, 15, 16, 17, 29, 30, 31, 32, 39, 40, 41, 63, 64, 126, 127, 999, 1000, 1001, 2999, 3000, 3001,
        Integer.MAX_VALUE - 1, Integer.MAX_VALUE};
    private static final String[] TEXTS = {"fr/xvq/a/w", "frxvq/aw", "f/r/x/y/v/q/a/w", "fr/xy/v/q/a/w", "frxyv/q/aw",
        "f/rxvqy/a/w", "fr/x/vq/ayw", "frxvqaw", "fr/xvq/a/w/", "f/r//xvq/a/w", "frxvq/yyaw", "f/r/x/y/v/q/a/w/"};

    private final Checks checks;
    private final Random random;
    private final PipeForge x = new PipeForge();
    private final StringBuilder collected = new StringBuilder();
    private String text = "fr/xvq/a/w";
    private final List<int[]> program = new ArrayList<>();
    private final int[] told = new int[64];
    private final int[] latency = new int[8];
    private Model model;

    private AnyCallsTest(Checks checks, Random random) {
        this.checks = checks;
        this.random = random;
        Arrays.fill(latency, 1);
        anew();
    }

    public static void main(String[] args) {
        Checks checks = new Checks("any calls");
        Random random = new Random(512L);
        for (int k = 0; k < OBJECTS; k++) {
            AnyCallsTest test = new AnyCallsTest(checks, random);
            for (int call = 0; call < CALLS; call++) {
                test.anyCall();
            }
        }
        checks.end();
    }

    private void anew() {
        model = new Model(text, new ArrayList<>(program), told, latency.clone());
    }

    /** Mostly a number that there is, now and then an edge. */
    private int any(int below) {
        return random.nextInt(20) == 0 ? EDGES[random.nextInt(EDGES.length)] : random.nextInt(below);
    }

    private static boolean within(int v, int low, int high) {
        return v >= low && v <= high;
    }

    private void anyCall() {
        int choice = random.nextInt(40);
        if (choice < 3) {
            units();
        } else if (choice < 7) {
            code();
        } else if (choice < 8) {
            memoryOrLatency();
        } else if (choice < 16) {
            run();
        } else {
            ask(choice);
        }
    }

    private void units() {
        String more = TEXTS[random.nextInt(TEXTS.length)];
        if (random.nextInt(6) == 0) {
            more = "" + (char) random.nextInt(140);
        }
        for (char sign : more.toCharArray()) {
            boolean fits = within(sign, 32, 126) && collected.length() < 30;
            checks.due("unit(" + (int) sign + ")", x.unit(sign), fits);
            if (fits) {
                collected.append(sign);
            }
        }
        if (random.nextInt(4) != 0) {
            line();
        }
    }

    private void line() {
        String said = collected.toString();
        collected.setLength(0);
        int got = x.line();
        boolean right = said.matches("f/?r/?x/?(v/?q/?a/?w|y/?v/?q/?a/?w|v/?y/?q/?a/?w|v/?q/?y/?a/?w|v/?q/?a/?y/?w)")
            && said.matches(".*q[y/]*/[y/]*a.*");
        if (right) {
            text = said;
            anew();
            checks.due("line() of " + said, got, said.split("/").length);
        } else {
            checks.due("line() is refused: " + said, within(got, -1 - said.length(), -1), true);
        }
    }

    private void code() {
        int kind = any(10);
        int d = any(8);
        int a = any(8);
        int b = any(8);
        int i = random.nextInt(8) == 0 ? any(64) : random.nextInt(Math.max(2, program.size() + 1));
        boolean fits = within(kind, 0, 9) && within(d, 0, 7) && within(a, 0, 7) && within(b, 0, 7) && program.size() < 40;
        int which = program.size();
        if (fits) {
            program.add(new int[] {kind, d, a, b, i});
            anew();
        }
        checks.due("code(" + kind + ", " + d + ", " + a + ", " + b + ", " + i + ")", x.code(kind, d, a, b, i),
            fits ? which : PipeForge.BAD);
    }

    private void memoryOrLatency() {
        int place = any(64);
        int v = any(4);
        if (random.nextBoolean()) {
            boolean fits = within(place, 0, 63);
            if (fits) {
                told[place] = v;
                anew();
            }
            checks.due("memory(" + place + ", " + v + ")", x.memory(place, v), fits);
            return;
        }
        int k = any(8);
        int cycles = any(18);
        boolean fits = within(k, 0, 7) && within(cycles, 1, 16);
        if (fits) {
            latency[k] = cycles;
            anew();
        }
        checks.due("latency(" + k + ", " + cycles + ")", x.latency(k, cycles), fits);
    }

    private void run() {
        int cycles = any(25);
        if (cycles >= 2999 && random.nextInt(6) != 0) {
            cycles = 0;
        }
        boolean fits = within(cycles, 1, 3000);
        for (int k = 0; fits && k < cycles && !model.ended; k++) {
            model.step();
        }
        checks.due("run(" + cycles + ")", x.run(cycles), fits ? model.cycle : PipeForge.BAD);
    }

    private void ask(int choice) {
        switch (choice % 8) {
            case 0 -> checks.due("cycle()", x.cycle(), model.cycle);
            case 1 -> checks.due("ended()", x.ended(), model.ended);
            case 2 -> checks.due("commits()", x.commits(), model.commits.size());
            case 3 -> commit();
            case 4 -> {
                int k = any(8);
                checks.due("register(" + k + ")", x.register(k), within(k, 0, 7) ? model.registers[k] : PipeForge.BAD);
            }
            case 5 -> {
                int k = any(64);
                checks.due("place(" + k + ")", x.place(k), within(k, 0, 63) ? model.places[k] : PipeForge.BAD);
            }
            case 6 -> checks.due("retired()", x.retired(), model.retired);
            default -> {
                checks.due("faithful()", x.faithful(), true);
                told();
            }
        }
    }

    private void commit() {
        int k = any(model.commits.size() + 2);
        int what = any(4);
        boolean known = within(k, 0, Math.min(1000, model.commits.size()) - 1) && within(what, 0, 3);
        checks.due("commit(" + k + ", " + what + ")", x.commit(k, what),
            known ? model.commits.get(k)[what] : PipeForge.NONE);
    }

    private void told() {
        int what = any(12);
        int want = PipeForge.BAD;
        if (what == 0) {
            want = model.stages.length;
        } else if (what == 1) {
            want = program.size();
        } else if (what == 2) {
            want = collected.length();
        } else if (within(what, 3, 10)) {
            want = model.stageOf("frxvqawy".charAt(what - 3));
        }
        checks.due("told(" + what + ")", x.told(what), want);
    }
}
