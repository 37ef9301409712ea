import java.util.ArrayList;
import java.util.List;
import java.util.Random;

/** Compares the class with Model on many programs and lines, always the same ones. */
public final class ModelTest {
    private static final int ROUNDS = 3000;
    private static final Checks CHECKS = new Checks("model");

    public static void main(String[] args) {
        Random random = new Random(20261115L);
        for (int round = 0; round < ROUNDS; round++) {
            compare(random, round);
        }
        CHECKS.end();
    }

    private static String randomLine(Random random) {
        StringBuilder order = new StringBuilder("frxvqaw");
        if (random.nextInt(3) != 0) {
            order.insert(3 + random.nextInt(4), 'y');
        }
        int share = 1 + random.nextInt(4);
        while (true) {
            StringBuilder text = new StringBuilder();
            for (int k = 0; k < order.length(); k++) {
                if (k > 0 && random.nextInt(5) < share) {
                    text.append('/');
                }
                text.append(order.charAt(k));
            }
            if (text.substring(text.indexOf("q"), text.indexOf("a")).contains("/")) {
                return text.toString();
            }
        }
    }

    private static List<int[]> randomProgram(Random random) {
        List<int[]> program = new ArrayList<>();
        int length = 1 + random.nextInt(40);
        int registers = 2 + random.nextInt(7);
        for (int k = 0; k < length; k++) {
            int kind = random.nextInt(25) == 0 ? 0 : 1 + random.nextInt(9);
            int i = random.nextInt(4);
            if (kind == 7 || kind == 9) {
                i = random.nextInt(15) == 0 ? random.nextInt(60) - 10 : random.nextInt(length + 1);
            } else if (random.nextInt(6) == 0) {
                i = random.nextInt();
            }
            program.add(new int[] {kind, random.nextInt(registers), random.nextInt(registers), random.nextInt(registers), i});
        }
        return program;
    }

    private static void compare(Random random, int round) {
        PipeForge x = new PipeForge();
        String text = randomLine(random);
        List<int[]> program = randomProgram(random);
        int[] told = new int[64];
        int[] latency = new int[8];
        String name = "round " + round + " " + text + ": ";
        CHECKS.due(name + "line()", Checks.line(x, text), text.split("/").length);
        for (int[] p : program) {
            x.code(p[0], p[1], p[2], p[3], p[4]);
        }
        for (int k = 0; k < 64; k++) {
            told[k] = random.nextInt(5);
            x.memory(k, told[k]);
        }
        for (int k = 0; k < 8; k++) {
            latency[k] = 1 + random.nextInt(random.nextBoolean() ? 3 : 16);
            x.latency(k, latency[k]);
        }
        Model model = new Model(text, program, told, latency);
        for (int part = 0; part < 6; part++) {
            int cycles = part < 5 ? 1 + random.nextInt(30) : 300;
            for (int k = 0; k < cycles && !model.ended; k++) {
                model.step();
            }
            CHECKS.due(name + "run(" + cycles + ")", x.run(cycles), model.cycle);
            same(name, x, model);
            oneByOne(name, x, program, told);
        }
    }

    private static void same(String name, PipeForge x, Model model) {
        CHECKS.due(name + "ended()", x.ended(), model.ended);
        CHECKS.due(name + "retired()", x.retired(), model.retired);
        CHECKS.due(name + "commits()", x.commits(), model.commits.size());
        for (int k = 0; k < model.commits.size(); k++) {
            for (int what = 0; what < 4; what++) {
                CHECKS.due(name + "commit(" + k + ", " + what + ")", x.commit(k, what), model.commits.get(k)[what]);
            }
        }
        for (int k = 0; k < 8; k++) {
            CHECKS.due(name + "register(" + k + ")", x.register(k), model.registers[k]);
        }
        for (int k = 0; k < 64; k++) {
            CHECKS.due(name + "place(" + k + ")", x.place(k), model.places[k]);
        }
    }

    private static void oneByOne(String name, PipeForge x, List<int[]> program, int[] told) {
        CHECKS.due(name + "faithful()", x.faithful(), true);
        int count = x.commits();
        List<int[]> want = Model.oneByOne(program, told, count);
        CHECKS.due(name + "commits one by one", want.size(), count);
        for (int k = 0; k < count && k < want.size(); k++) {
            for (int what = 0; what < 3; what++) {
                CHECKS.due(name + "one by one " + k, x.commit(k, what), want.get(k)[what]);
            }
        }
    }
}
