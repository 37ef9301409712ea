import java.util.ArrayList;
import java.util.List;

/** A second line, written sentence by sentence after the terms of the document, for comparison only. */
final class Model {
    static final class Walker {
        int[] code;
        int stage;
        int[] firedIn = new int[8];
        int av;
        int bv;
        int result;
    }

    final String[] stages;
    final List<int[]> program;
    final int[] registers = new int[8];
    final int[] places;
    final int[] latency;
    /** From the oldest to the youngest. */
    final List<Walker> inLine = new ArrayList<>();
    final List<int[]> commits = new ArrayList<>();
    int cycle;
    int next;
    int retired;
    boolean ended;
    private List<Walker> atBegin = new ArrayList<>();

    Model(String text, List<int[]> program, int[] told, int[] latency) {
        this.stages = text.split("/");
        this.program = program;
        this.places = told.clone();
        this.latency = latency;
    }

    static int[] codeAt(List<int[]> program, int number) {
        return number < 0 || number >= program.size() ? new int[] {0, 0, 0, 0, 0} : program.get(number);
    }

    int stageOf(char action) {
        for (int k = 0; k < stages.length; k++) {
            if (stages[k].indexOf(action) >= 0) {
                return k;
            }
        }
        return -1;
    }

    Walker in(int stage) {
        for (Walker walker : inLine) {
            if (walker.stage == stage) {
                return walker;
            }
        }
        return null;
    }

    void step() {
        cycle++;
        atBegin = new ArrayList<>(inLine);
        if (in(0) == null) {
            Walker walker = new Walker();
            walker.code = codeAt(program, next);
            inLine.add(walker);
            next++;
        }
        for (int stage = stages.length - 1; stage >= 0; stage--) {
            Walker walker = in(stage);
            if (walker != null && fires(walker)) {
                fire(walker);
            }
        }
    }

    boolean fires(Walker walker) {
        if (walker.stage < stages.length - 1 && in(walker.stage + 1) != null) {
            return false;
        }
        int kind = walker.code[0];
        for (char action : stages[walker.stage].toCharArray()) {
            if (action == 'r') {
                if ("2345678".indexOf('0' + kind) >= 0 && !ready(walker, walker.code[2])) {
                    return false;
                }
                if ("23467".indexOf('0' + kind) >= 0 && !ready(walker, walker.code[3])) {
                    return false;
                }
            }
            if (action == 'q' && kind == 5) {
                int wStage = stageOf('w');
                for (Walker older : atBegin) {
                    if (older == walker) {
                        break;
                    }
                    boolean done = older.firedIn[wStage] != 0 && older.firedIn[wStage] < cycle;
                    if (older.code[0] == 6 && !done) {
                        return false;
                    }
                }
            }
            if (action == 'a' && kind == 5) {
                int place = walker.av + walker.code[4] & 63;
                if (cycle - walker.firedIn[stageOf('q')] < latency[place % 8]) {
                    return false;
                }
            }
        }
        return true;
    }

    Walker writer(Walker reader, int register) {
        Walker youngest = null;
        for (Walker older : inLine) {
            if (older == reader) {
                break;
            }
            if (older.code[0] >= 1 && older.code[0] <= 5 && older.code[1] == register) {
                youngest = older;
            }
        }
        return youngest;
    }

    boolean ready(Walker reader, int register) {
        Walker writer = writer(reader, register);
        if (writer == null) {
            for (int[] commit : commits) {
                if (commit[0] == 0 && commit[1] == register && commit[3] == cycle) {
                    return false;
                }
            }
            return true;
        }
        int y = stageOf('y');
        if (y < 0) {
            return false;
        }
        int giving = writer.code[0] == 5 ? Math.max(y, stageOf('a')) : y;
        return writer.firedIn[giving] != 0 && writer.firedIn[giving] < cycle;
    }

    int valueOf(Walker reader, int register) {
        Walker writer = writer(reader, register);
        return writer == null ? registers[register] : writer.result;
    }

    void fire(Walker walker) {
        int[] code = walker.code;
        for (char action : stages[walker.stage].toCharArray()) {
            switch (action) {
                case 'r' -> {
                    walker.av = valueOf(walker, code[2]);
                    walker.bv = valueOf(walker, code[3]);
                }
                case 'x' -> walker.result = new int[] {0, code[4], walker.av + walker.bv, walker.av - walker.bv,
                    walker.av * walker.bv, 0, walker.bv, 0, walker.av, 0}[code[0]];
                case 'v' -> {
                    if (code[0] == 9 || code[0] == 7 && walker.av == walker.bv) {
                        while (inLine.get(inLine.size() - 1) != walker) {
                            inLine.remove(inLine.size() - 1);
                        }
                        next = code[4];
                    }
                }
                case 'q' -> {
                    if (code[0] == 5) {
                        walker.result = places[walker.av + code[4] & 63];
                    }
                }
                case 'w' -> commit(walker);
                default -> { }
            }
        }
        walker.firedIn[walker.stage] = cycle;
        walker.stage++;
        if (walker.stage == stages.length) {
            inLine.remove(walker);
            retired++;
        }
    }

    void commit(Walker walker) {
        int kind = walker.code[0];
        if (kind == 0) {
            ended = true;
        } else if (kind <= 5) {
            registers[walker.code[1]] = walker.result;
            commits.add(new int[] {0, walker.code[1], walker.result, cycle});
        } else if (kind == 6) {
            int place = walker.av + walker.code[4] & 63;
            places[place] = walker.result;
            commits.add(new int[] {1, place, walker.result, cycle});
        } else if (kind == 8) {
            commits.add(new int[] {2, 0, walker.result, cycle});
        }
    }

    /** The first commits of the program one by one, at most so many. */
    static List<int[]> oneByOne(List<int[]> program, int[] told, int most) {
        List<int[]> out = new ArrayList<>();
        int[] r = new int[8];
        int[] m = told.clone();
        int number = 0;
        for (int step = 0; step < most * 50 && out.size() < most; step++) {
            int[] code = codeAt(program, number);
            int a = r[code[2]];
            int b = r[code[3]];
            int place = a + code[4] & 63;
            number++;
            switch (code[0]) {
                case 0 -> {
                    return out;
                }
                case 6 -> {
                    m[place] = b;
                    out.add(new int[] {1, place, b});
                }
                case 7 -> number = a == b ? code[4] : number;
                case 8 -> out.add(new int[] {2, 0, a});
                case 9 -> number = code[4];
                default -> {
                    int[] of = {0, code[4], a + b, a - b, a * b, m[place]};
                    r[code[1]] = of[code[0]];
                    out.add(new int[] {0, code[1], r[code[1]]});
                }
            }
        }
        return out;
    }
}
