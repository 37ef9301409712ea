/** The edges of THE PROGRAM and of ONE BY ONE (Terms), one method for each sentence. */
public final class EdgesOfProgramTest {
    private static final int MIN = Integer.MIN_VALUE;
    private static final int MAX = Integer.MAX_VALUE;

    private final Checks c = new Checks("edges of the program");

    public static void main(String[] args) {
        new EdgesOfProgramTest().all();
    }

    private void all() {
        atMostForty();
        registers();
        kinds();
        in32Bits();
        goesOnIn32Bits();
        moduloSixtyFour();
        zeroAtFirst();
        noSuchInstruction();
        onePastTheLast();
        commitsOfEachKind();
        fromInstructionZero();
        c.end();
    }

    private void atMostForty() {
        c.sentence("THE PROGRAM are at most 40 INSTRUCTIONS");
        PipeForge x = new PipeForge();
        c.due("run(3000) without one: a stop alone", x.run(3000), 4);
        for (int count = 1; count <= 40; count++) {
            c.due("code(..)", x.code(8, 0, 0, 0, 0), count - 1);
            c.due("told(1)", x.told(1), count);
            c.due("run(3000) with " + count, x.run(3000), count + 4);
            c.due("commits()", x.commits(), count);
        }
        c.due("code(..), the 41st", x.code(8, 0, 0, 0, 0), PipeForge.BAD);
        c.due("code(..), again", x.code(0, 0, 0, 0, 0), PipeForge.BAD);
        c.due("told(1)", x.told(1), 40);
        c.due("cycle()", x.cycle(), 44);
    }

    private void registers() {
        c.sentence("each with a kind, D, A, B (registers 0 .. 7), and a number I");
        for (int d = 0; d < 8; d++) {
            for (int a = 0; a < 8; a++) {
                int b = 7 - a;
                PipeForge x = new PipeForge();
                c.due("code, A", x.code(1, a, 0, 0, 100), 0);
                c.due("code, B", x.code(1, b, 0, 0, 11), 1);
                c.due("code, D", x.code(3, d, a, b, MAX), 2);
                x.run(3000);
                c.due("D " + d + " = " + a + " - " + b, x.register(d), 89);
            }
        }
        int[] none = {-1, 8};
        for (int kind = 0; kind <= 9; kind++) {
            PipeForge x = new PipeForge();
            for (int k : none) {
                c.due("D " + k + " of kind " + kind, x.code(kind, k, 7, 7, 0), PipeForge.BAD);
                c.due("A " + k + " of kind " + kind, x.code(kind, 7, k, 7, 0), PipeForge.BAD);
                c.due("B " + k + " of kind " + kind, x.code(kind, 7, 7, k, 0), PipeForge.BAD);
            }
            c.due("kind " + kind + " with 0 and the least I", x.code(kind, 0, 0, 0, MIN), 0);
            c.due("kind " + kind + " with 7 and the largest I", x.code(kind, 7, 7, 7, MAX), 1);
        }
    }

    /** The last commit of a program that works with 40 in register 1 and 3 in register 2. */
    private static int lastValue(int kind, int d, int a, int b, int i) {
        PipeForge x = new PipeForge();
        x.memory(50, 77);
        x.code(1, 1, 0, 0, 40);
        x.code(1, 2, 0, 0, 3);
        x.code(kind, d, a, b, i);
        x.run(3000);
        return x.commit(x.commits() - 1, 2);
    }

    private void kinds() {
        c.sentence("0 stop; 1 D = I; 2 D = A + B; 3 D = A - B; 4 D = A * B; 5 D = memory at A + I;"
            + " 6 memory at A + I = B; 7 on at instruction I, if A = B; 8 A goes out; 9 on at I.");
        PipeForge x = new PipeForge();
        c.due("kind -1", x.code(-1, 0, 0, 0, 0), PipeForge.BAD);
        c.due("kind 10", x.code(10, 0, 0, 0, 0), PipeForge.BAD);
        c.due("kind 0, the first", x.code(0, 0, 0, 0, 0), 0);
        c.due("kind 9, the last", x.code(9, 0, 0, 0, 0), 1);
        c.due("1", lastValue(1, 3, 1, 2, -6), -6);
        c.due("2", lastValue(2, 3, 1, 2, 9), 43);
        c.due("3", lastValue(3, 3, 1, 2, 9), 37);
        c.due("3, the other way", lastValue(3, 3, 2, 1, 9), -37);
        c.due("4", lastValue(4, 3, 1, 2, 9), 120);
        c.due("5", lastValue(5, 3, 1, 2, 10), 77);
        c.due("6", lastValue(6, 3, 1, 2, 10), 3);
        c.due("8", lastValue(8, 3, 1, 2, 10), 40);
        // Both registers that it reads may be the one that it commits.
        c.due("2 with one register", lastValue(2, 1, 1, 1, 0), 80);
        c.due("3 with one register", lastValue(3, 1, 1, 1, 0), 0);
        c.due("4 with one register", lastValue(4, 2, 2, 2, 0), 9);
    }

    private int worked(int kind, int left, int right) {
        PipeForge x = new PipeForge();
        x.code(1, 6, 0, 0, left);
        x.code(1, 7, 0, 0, right);
        x.code(kind, 5, 6, 7, 0);
        x.run(3000);
        c.due("commit(2, 2) and register(5)", x.commit(2, 2), x.register(5));
        c.due("faithful()", x.faithful(), true);
        return x.register(5);
    }

    private void in32Bits() {
        c.sentence("All in 32 bits");
        c.due("MAX + 1", worked(2, MAX, 1), MIN);
        c.due("MAX + 0", worked(2, MAX, 0), MAX);
        c.due("MAX + MAX", worked(2, MAX, MAX), -2);
        c.due("MIN + -1", worked(2, MIN, -1), MAX);
        c.due("MIN + MIN", worked(2, MIN, MIN), 0);
        c.due("MIN - 1", worked(3, MIN, 1), MAX);
        c.due("MIN - 0", worked(3, MIN, 0), MIN);
        c.due("0 - MIN", worked(3, 0, MIN), MIN);
        c.due("MAX - -1", worked(3, MAX, -1), MIN);
        c.due("-1 - MAX", worked(3, -1, MAX), MIN);
        c.due("MIN * -1", worked(4, MIN, -1), MIN);
        c.due("MAX * MAX", worked(4, MAX, MAX), 1);
        c.due("65536 * 65536", worked(4, 65536, 65536), 0);
        c.due("46340 * 46340", worked(4, 46340, 46340), 2147395600);
        c.due("46341 * 46341", worked(4, 46341, 46341), -2147479015);
        int[] values = {MIN, MIN + 1, -2, -1, 0, 1, MAX - 1, MAX};
        for (int v : values) {
            PipeForge x = new PipeForge();
            x.code(1, 1, 0, 0, v);
            x.code(6, 0, 0, 1, 0);
            x.code(5, 2, 0, 0, 0);
            x.code(8, 0, 2, 0, 0);
            x.run(3000);
            for (int k = 0; k < 4; k++) {
                c.due("commit(" + k + ", 2) of " + v, x.commit(k, 2), v);
            }
            c.due("place(0)", x.place(0), v);
        }
    }

    /** Whether a branch goes on when A is left + right and B is this one. */
    private static boolean goesOn(int left, int right, int b) {
        PipeForge x = new PipeForge();
        x.code(1, 1, 0, 0, left);
        x.code(1, 2, 0, 0, right);
        x.code(2, 1, 1, 2, 0);
        x.code(1, 2, 0, 0, b);
        x.code(7, 0, 1, 2, 6);
        x.code(8, 0, 0, 0, 0);
        x.run(3000);
        return x.commits() == 4;
    }

    private void goesOnIn32Bits() {
        c.sentence("7 on at instruction I, if A = B");
        c.due("MAX + 1 = MIN", goesOn(MAX, 1, MIN), true);
        c.due("MAX + 1 = MIN + 1", goesOn(MAX, 1, MIN + 1), false);
        c.due("MIN + -1 = MAX", goesOn(MIN, -1, MAX), true);
        c.due("MIN + MIN = 0", goesOn(MIN, MIN, 0), true);
        c.due("MIN + 0 = 0", goesOn(MIN, 0, 0), false);
        c.due("0 = -1", goesOn(0, 0, -1), false);
        c.due("0 = 1", goesOn(0, 0, 1), false);
        c.due("1 = 1", goesOn(1, 0, 1), true);
        c.due("MAX = MAX", goesOn(MAX, 0, MAX), true);
        c.due("MAX = MIN", goesOn(MAX, 0, MIN), false);
    }

    private void atPlace(int a, int i, int place) {
        PipeForge x = new PipeForge();
        x.memory(place, 31);
        x.code(1, 1, 0, 0, a);
        x.code(5, 2, 1, 0, i);
        x.code(1, 3, 0, 0, 9);
        x.code(6, 0, 1, 3, i);
        x.run(3000);
        String sum = a + " + " + i;
        c.due("load at " + sum, x.register(2), 31);
        c.due("store at " + sum, x.commit(3, 1), place);
        c.due("place(" + place + ") behind a store at " + sum, x.place(place), 9);
        c.due("faithful()", x.faithful(), true);
    }

    private void moduloSixtyFour() {
        c.sentence("places of memory (64) modulo 64");
        atPlace(0, 0, 0);
        atPlace(0, 63, 63);
        atPlace(63, 0, 63);
        atPlace(0, 64, 0);
        atPlace(64, 0, 0);
        atPlace(63, 1, 0);
        atPlace(0, 127, 63);
        atPlace(0, 128, 0);
        atPlace(0, -1, 63);
        atPlace(-1, 0, 63);
        atPlace(1, -1, 0);
        atPlace(0, -64, 0);
        atPlace(0, -65, 63);
        atPlace(0, MAX, 63);
        atPlace(0, MIN, 0);
        atPlace(MAX, 1, 0);
        atPlace(MAX, MAX, 62);
        atPlace(MIN, -1, 63);
        atPlace(MIN, MIN, 0);
    }

    private void zeroAtFirst() {
        c.sentence("registers and memory are 0 at first");
        for (int k = 0; k < 8; k++) {
            PipeForge x = new PipeForge();
            x.code(8, 0, k, 0, 0);
            x.run(3000);
            c.commit(x, 0, 2, 0, 0, 4);
            c.due("register(" + k + ")", x.register(k), 0);
        }
        for (int k = 0; k < 64; k++) {
            PipeForge x = new PipeForge();
            c.due("place(" + k + ")", x.place(k), 0);
            x.code(5, 1, 0, 0, k);
            x.run(3000);
            c.commit(x, 0, 0, 1, 0, 4);
        }
    }

    private void noSuchInstruction() {
        c.sentence("An instruction number that there is not is a stop.");
        int[] goals = {MIN, MIN + 1, -41, -40, -2, -1, 3, 4, 39, 40, 41, MAX - 1, MAX};
        for (int goal : goals) {
            for (int kind = 7; kind <= 9; kind += 2) {
                PipeForge x = new PipeForge();
                x.code(8, 0, 0, 0, 0);
                x.code(kind, 0, 0, 0, goal);
                x.code(8, 0, 0, 0, 0);
                // The stop comes in cycle 4, behind the v of cycle 3, and is in the last stage in cycle 7.
                String when = "kind " + kind + " on at " + goal;
                c.due(when + ": run(6)", x.run(6), 6);
                c.due(when + ": ended()", x.ended(), false);
                c.due(when + ": run(3000)", x.run(3000), 7);
                c.due(when + ": ended()", x.ended(), true);
                c.due(when + ": commits()", x.commits(), 1);
                c.due(when + ": retired()", x.retired(), 3);
                c.due(when + ": faithful()", x.faithful(), true);
            }
        }
        // The first one and the last one there are.
        PipeForge y = new PipeForge();
        y.code(9, 0, 0, 0, 2);
        y.code(0, 0, 0, 0, 0);
        y.code(8, 0, 0, 0, 0);
        y.run(3000);
        c.due("on at the last one: commits()", y.commits(), 1);
        PipeForge z = new PipeForge();
        z.code(8, 0, 0, 0, 0);
        z.code(9, 0, 0, 0, 0);
        z.run(3000);
        c.due("on at the first one: ended()", z.ended(), false);
        c.due("on at the first one: commits()", z.commits() > 900, true);
    }

    private void onePastTheLast() {
        c.sentence("An instruction number that there is not is a stop.");
        for (int goal = 38; goal <= 40; goal++) {
            PipeForge x = new PipeForge();
            x.code(9, 0, 0, 0, goal);
            for (int k = 1; k < 40; k++) {
                x.code(1, 0, 0, 0, k);
            }
            x.run(3000);
            c.due("ended()", x.ended(), true);
            c.due("commits() from " + goal + " on", x.commits(), 40 - goal);
            c.due("register(0)", x.register(0), goal == 40 ? 0 : 39);
        }
    }

    private void commitsOfEachKind() {
        c.sentence("1 .. 5 COMMIT a register, 6 a place of memory, 8 what goes out; 7, 9, 0 nothing.");
        int[] commitKind = {-1, 0, 0, 0, 0, 0, 1, -1, 2, -1};
        for (int kind = 0; kind <= 9; kind++) {
            PipeForge x = new PipeForge();
            x.code(kind, 7, 3, 3, 40);
            x.run(3000);
            int want = commitKind[kind];
            c.due("commits() of kind " + kind, x.commits(), want < 0 ? 0 : 1);
            c.due("commit(0, 0) of kind " + kind, x.commit(0, 0), want < 0 ? PipeForge.NONE : want);
            int[] which = {7, 40, 0};
            c.due("commit(0, 1) of kind " + kind, x.commit(0, 1), want < 0 ? PipeForge.NONE : which[want]);
        }
    }

    private void fromInstructionZero() {
        c.sentence("from instruction 0 on, each to its end");
        PipeForge x = Checks.on("frxy/v/q/a/w");
        x.code(1, 1, 0, 0, 2);
        x.code(4, 1, 1, 1, 0);
        x.code(4, 1, 1, 1, 0);
        x.code(6, 0, 1, 1, 0);
        x.code(5, 1, 1, 0, 0);
        x.code(3, 1, 1, 0, 0);
        x.code(8, 0, 1, 0, 0);
        x.run(3000);
        int[] values = {2, 4, 16, 16, 16, 16, 16};
        for (int k = 0; k < values.length; k++) {
            c.due("commit(" + k + ", 2)", x.commit(k, 2), values[k]);
        }
        c.due("place(16)", x.place(16), 16);
        c.due("commits()", x.commits(), 7);
    }
}
