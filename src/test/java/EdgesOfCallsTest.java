/** The edges of promises 1, 2 and 4 to 16, one method for each sentence. Promise 3 is in EdgesOfTextTest. */
public final class EdgesOfCallsTest {
    private static final int BAD = PipeForge.BAD;
    private static final int NONE = PipeForge.NONE;
    private static final int MIN = Integer.MIN_VALUE;
    private static final int MAX = Integer.MAX_VALUE;

    private final Checks c = new Checks("edges of the calls");

    public static void main(String[] args) {
        new EdgesOfCallsTest().all();
    }

    private void all() {
        upTo512Calls();
        newObject();
        signs();
        roomForThirty();
        oneMoreInstruction();
        badCode();
        placeWhenTheLineBegins();
        toldTwice();
        placesModuloEight();
        noSuchLatency();
        atMostSoManyCycles();
        notEnded();
        theCycle();
        isEnded();
        howManyCommits();
        ofTheFirstThousand();
        partsOfACommit();
        noneMayBeAValue();
        registers();
        places();
        wholeLine();
        theorem();
        tells();
        c.end();
    }

    /** Commits a 7 into register 5 in cycles 2, 4, 6, .. without an end. */
    private static PipeForge everySecondCycle() {
        PipeForge x = Checks.on("frxvq/aw");
        x.code(1, 5, 0, 0, 7);
        x.code(9, 0, 0, 0, 0);
        return x;
    }

    private void upTo512Calls() {
        c.sentence("An object is used for at most 512 calls after it has been made");
        // 9 calls for the line and 2 for the program, then runs; the last call is the 512th.
        PipeForge x = everySecondCycle();
        for (int call = 12; call <= 511; call++) {
            c.due("run(3000), call " + call, x.run(3000), (call - 11) * 3000);
        }
        c.due("commits(), call 512", x.commits(), 750000);
        PipeForge y = everySecondCycle();
        for (int call = 12; call <= 511; call++) {
            y.run(3000);
        }
        c.due("faithful(), call 512", y.faithful(), true);
        PipeForge z = new PipeForge();
        for (int call = 1; call <= 511; call++) {
            c.due("unit(102), call " + call, z.unit(102), call <= 30);
        }
        c.due("line(), call 512", z.line(), -2);
    }

    private void newObject() {
        c.sentence("The line fr/xvq/a/w, no program, cycle 0.");
        PipeForge x = new PipeForge();
        c.begunAnew(x, "new");
        c.alike("as if it were told", Checks.on("fr/xvq/a/w"), x);
        c.due("told(1)", x.told(1), 0);
        c.due("told(2)", x.told(2), 0);
        c.due("line() of nothing", x.line(), -1);
        c.due("run(3)", x.run(3), 3);
        c.due("ended()", x.ended(), false);
        c.due("run(1)", x.run(1), 4);
        c.due("ended()", x.ended(), true);
    }

    private void signs() {
        c.sentence("A sign of 32 .. 126 is collected");
        int[] others = {MIN, -1, 0, 10, 31, 127, 128, 255, 256 + 32, MAX};
        PipeForge x = new PipeForge();
        for (int u : others) {
            c.due("unit(" + u + ")", x.unit(u), false);
            c.due("told(2)", x.told(2), 0);
        }
        c.due("unit(32)", x.unit(32), true);
        c.due("told(2)", x.told(2), 1);
        c.due("unit(126)", x.unit(126), true);
        c.due("told(2)", x.told(2), 2);
        // What is refused leaves no gap.
        PipeForge y = new PipeForge();
        String text = "frxvq/aw";
        for (int k = 0; k < text.length(); k++) {
            y.unit(31);
            y.unit(text.charAt(k));
            y.unit(127);
        }
        c.due("line() among refused signs", y.line(), 2);
    }

    private void roomForThirty() {
        c.sentence("at most 30. False: another one, no room.");
        PipeForge x = new PipeForge();
        String text = "f/r/x/y/v/q/a/w";
        for (int k = 0; k < 30; k++) {
            c.due("unit, number " + k, x.unit(k < 15 ? text.charAt(k) : 126), true);
            c.due("told(2)", x.told(2), k + 1);
        }
        c.due("unit(32), the 31st", x.unit(32), false);
        c.due("unit(126), the 31st", x.unit(126), false);
        c.due("unit(31), the 31st", x.unit(31), false);
        c.due("told(2)", x.told(2), 30);
        c.due("line()", x.line(), -16);
        for (int k = 0; k < 30; k++) {
            c.due("unit, number " + k + " again", x.unit(102), true);
        }
        c.due("unit, the 31st again", x.unit(102), false);
    }

    private void oneMoreInstruction() {
        c.sentence("One more instruction: which one. The line begins anew.");
        PipeForge x = new PipeForge();
        x.memory(1, 4);
        for (int k = 0; k < 40; k++) {
            x.run(1 + k % 9);
            c.due("code(..)", x.code(6, k % 8, 0, 0, 1), k);
            c.begunAnew(x, "code(..) " + k);
            c.due("place(1)", x.place(1), 4);
        }
        c.due("run(3000)", x.run(3000), 44);
        c.due("place(1)", x.place(1), 0);
    }

    private void badCode() {
        c.sentence("BAD: no such kind, register; there are 40.");
        PipeForge x = new PipeForge();
        int[] kinds = {MIN, -1, 10, MAX};
        for (int kind : kinds) {
            c.due("kind " + kind, x.code(kind, 0, 0, 0, 0), BAD);
        }
        int[] registers = {MIN, -1, 8, MAX};
        for (int k : registers) {
            c.due("D " + k, x.code(2, k, 0, 0, 0), BAD);
            c.due("A " + k, x.code(2, 0, k, 0, 0), BAD);
            c.due("B " + k, x.code(2, 0, 0, k, 0), BAD);
        }
        c.due("told(1)", x.told(1), 0);
        for (int k = 0; k < 39; k++) {
            x.code(1, 0, 0, 0, 0);
        }
        c.due("kind 10 with room for one", x.code(10, 0, 0, 0, 0), BAD);
        c.due("kind 9, the 40th", x.code(9, 7, 7, 7, 7), 39);
        c.due("kind 9, the 41st", x.code(9, 7, 7, 7, 7), BAD);
        c.due("kind 10, the 41st", x.code(10, 0, 0, 0, 0), BAD);
        c.due("told(1)", x.told(1), 40);
    }

    private void placeWhenTheLineBegins() {
        c.sentence("A place of memory (0 .. 63) has a value when the line begins; it begins anew. False: none such.");
        PipeForge x = new PipeForge();
        c.due("memory(-1, 1)", x.memory(-1, 1), false);
        c.due("memory(64, 1)", x.memory(64, 1), false);
        c.due("memory(MIN, 1)", x.memory(MIN, 1), false);
        c.due("memory(MAX, 1)", x.memory(MAX, 1), false);
        for (int k = 0; k < 64; k++) {
            c.due("place(" + k + ")", x.place(k), 0);
        }
        x.run(2);
        c.due("memory(0, MIN)", x.memory(0, MIN), true);
        c.begunAnew(x, "memory(0, MIN)");
        x.run(2);
        c.due("memory(63, MAX)", x.memory(63, MAX), true);
        c.begunAnew(x, "memory(63, MAX)");
        c.due("place(0)", x.place(0), MIN);
        c.due("place(63)", x.place(63), MAX);
        for (int k = 1; k < 63; k++) {
            c.due("place(" + k + ")", x.place(k), 0);
        }
    }

    private void toldTwice() {
        c.sentence("has a value when the line begins");
        PipeForge x = new PipeForge();
        x.memory(9, 5);
        x.memory(9, 6);
        c.due("place(9), told twice", x.place(9), 6);
        x.code(1, 1, 0, 0, 8);
        x.code(6, 0, 0, 1, 9);
        x.code(5, 2, 0, 0, 10);
        x.run(3000);
        c.due("place(9), committed", x.place(9), 8);
        x.memory(10, 3);
        c.due("place(9), begun anew", x.place(9), 6);
        x.run(3000);
        c.due("register(2)", x.register(2), 3);
        x.memory(9, 0);
        c.due("place(9), told to be 0", x.place(9), 0);
        c.due("place(10)", x.place(10), 3);
    }

    /** The cycle in which a load of this place commits; it asks in cycle 2. */
    private static int loadedIn(PipeForge x) {
        x.run(3000);
        return x.commit(0, 3);
    }

    private void placesModuloEight() {
        c.sentence("Places whose number modulo 8 is k have a latency, 1 .. 16. The line begins anew.");
        for (int k = 0; k < 8; k++) {
            for (int place = 0; place < 64; place++) {
                PipeForge x = new PipeForge();
                x.code(5, 1, 0, 0, place);
                c.due("latency(" + k + ", 16)", x.latency(k, 16), true);
                c.due("a load of place " + place, loadedIn(x), place % 8 == k ? 19 : 4);
                c.due("latency(" + k + ", 1)", x.latency(k, 1), true);
                c.begunAnew(x, "latency(" + k + ", 1)");
                c.due("a load of place " + place, loadedIn(x), 4);
            }
        }
        PipeForge y = new PipeForge();
        y.code(5, 1, 0, 0, 0);
        y.latency(0, 2);
        y.latency(0, 5);
        y.code(0, 0, 0, 0, 0);
        c.due("told twice, and kept behind code(..)", loadedIn(y), 8);
    }

    private void noSuchLatency() {
        c.sentence("Places whose number modulo 8 is k have a latency, 1 .. 16. The line begins anew. False: none such.");
        PipeForge x = new PipeForge();
        x.code(5, 1, 0, 0, 0);
        x.latency(0, 3);
        int[][] none = {{-1, 1}, {-1, 16}, {8, 1}, {8, 16}, {0, 0}, {0, 17}, {7, 0}, {7, 17}, {0, -1}, {MIN, 1}, {MAX, 1},
            {0, MIN}, {0, MAX}};
        for (int[] pair : none) {
            c.due("latency(" + pair[0] + ", " + pair[1] + ")", x.latency(pair[0], pair[1]), false);
        }
        c.due("a load with the latency of before", loadedIn(x), 6);
        int[][] some = {{0, 1}, {0, 16}, {7, 1}, {7, 16}};
        for (int[] pair : some) {
            c.due("latency(" + pair[0] + ", " + pair[1] + ")", x.latency(pair[0], pair[1]), true);
        }
    }

    private void atMostSoManyCycles() {
        c.sentence("At most so many cycles (1 .. 3,000) more");
        PipeForge x = everySecondCycle();
        int[] other = {MIN, -3000, -1, 0, 3001, MAX};
        for (int cycles : other) {
            c.due("run(" + cycles + ")", x.run(cycles), BAD);
            c.due("cycle()", x.cycle(), 0);
        }
        c.due("run(1)", x.run(1), 1);
        c.due("run(3000)", x.run(3000), 3001);
        c.due("run(2999)", x.run(2999), 6000);
        for (int cycles : other) {
            c.due("run(" + cycles + ")", x.run(cycles), BAD);
            c.due("cycle()", x.cycle(), 6000);
        }
        c.due("commits()", x.commits(), 3000);
    }

    private void notEnded() {
        c.sentence("as long as it is not ended: the cycle that was reached");
        for (int cycles = 1; cycles <= 8; cycles++) {
            PipeForge x = new PipeForge();
            c.due("run(" + cycles + ") with a stop in cycle 4", x.run(cycles), Math.min(4, cycles));
            c.due("ended()", x.ended(), cycles >= 4);
            c.due("run(" + cycles + ") again", x.run(cycles), Math.min(4, 2 * cycles));
            c.due("run(3000)", x.run(3000), 4);
            c.due("run(1), ended", x.run(1), 4);
            c.due("run(0), ended", x.run(0), BAD);
            c.due("run(3001), ended", x.run(3001), BAD);
        }
    }

    private void theCycle() {
        c.sentence("The cycle.");
        PipeForge x = new PipeForge();
        for (int cycle = 0; cycle < 4; cycle++) {
            c.due("cycle()", x.cycle(), cycle);
            c.due("run(1)", x.run(1), cycle + 1);
        }
        x.run(1);
        c.due("cycle(), ended", x.cycle(), 4);
        x.code(8, 0, 0, 0, 0);
        c.due("cycle(), begun anew", x.cycle(), 0);
    }

    private void isEnded() {
        c.sentence("Whether the line is ended.");
        PipeForge x = new PipeForge();
        c.due("ended(), cycle 0", x.ended(), false);
        x.run(3);
        c.due("ended(), the stop before its w", x.ended(), false);
        x.run(1);
        c.due("ended()", x.ended(), true);
        x.memory(0, 0);
        c.due("ended(), begun anew", x.ended(), false);
        PipeForge y = everySecondCycle();
        y.run(3000);
        c.due("ended(), without a stop", y.ended(), false);
    }

    private void howManyCommits() {
        c.sentence("How many commits there were.");
        PipeForge x = everySecondCycle();
        c.due("commits(), cycle 0", x.commits(), 0);
        x.run(1);
        c.due("commits(), cycle 1", x.commits(), 0);
        x.run(1);
        c.due("commits(), cycle 2", x.commits(), 1);
        x.run(1997);
        c.due("commits(), cycle 1999", x.commits(), 999);
        x.run(1);
        c.due("commits(), cycle 2000", x.commits(), 1000);
        x.run(2);
        c.due("commits(), cycle 2002", x.commits(), 1001);
        x.run(3000);
        c.due("commits(), cycle 5002", x.commits(), 2501);
    }

    private void ofTheFirstThousand() {
        c.sentence("Of commit k, of the first 1,000");
        PipeForge x = everySecondCycle();
        c.noCommit(x, 0);
        x.run(2);
        c.commit(x, 0, 0, 5, 7, 2);
        c.noCommit(x, 1);
        c.noCommit(x, -1);
        x.run(1997);
        c.commit(x, 998, 0, 5, 7, 1998);
        c.noCommit(x, 999);
        x.run(1);
        c.commit(x, 999, 0, 5, 7, 2000);
        c.noCommit(x, 1000);
        x.run(2);
        c.commit(x, 0, 0, 5, 7, 2);
        c.commit(x, 999, 0, 5, 7, 2000);
        c.noCommit(x, 1000);
        x.run(3000);
        c.commit(x, 999, 0, 5, 7, 2000);
        c.noCommit(x, 1000);
        c.noCommit(x, 1001);
        c.noCommit(x, 2500);
        c.noCommit(x, MAX);
        c.noCommit(x, MIN);
        // The first 1,000 come back when it has begun anew.
        x.memory(0, 0);
        c.noCommit(x, 0);
        c.noCommit(x, 999);
        x.run(2);
        c.commit(x, 0, 0, 5, 7, 2);
        c.noCommit(x, 1);
    }

    private void partsOfACommit() {
        c.sentence("0 its kind (0 a register, 1 a place of memory, 2 out), 1 which one (0 for out), 2 the value,"
            + " 3 the cycle");
        PipeForge x = new PipeForge();
        x.code(1, 0, 0, 0, 6);
        x.code(1, 7, 0, 0, 9);
        x.code(6, 3, 1, 7, 0);
        x.code(6, 3, 1, 7, 63);
        x.code(8, 4, 7, 5, 3);
        x.run(3000);
        c.commit(x, 0, 0, 0, 6, 4);
        c.commit(x, 1, 0, 7, 9, 5);
        c.commit(x, 2, 1, 0, 9, 9);
        c.commit(x, 3, 1, 63, 9, 10);
        c.commit(x, 4, 2, 0, 9, 11);
        int[] others = {MIN, -1, 4, 5, MAX};
        for (int k = -1; k <= 5; k++) {
            for (int what : others) {
                c.due("commit(" + k + ", " + what + ")", x.commit(k, what), NONE);
            }
        }
    }

    private void noneMayBeAValue() {
        c.sentence("NONE (which may be a value, too)");
        PipeForge x = new PipeForge();
        x.code(1, 1, 0, 0, NONE);
        x.code(6, 0, 0, 1, 0);
        x.code(8, 0, 1, 0, 0);
        x.run(3000);
        c.commit(x, 0, 0, 1, NONE, 4);
        c.commit(x, 1, 1, 0, NONE, 8);
        c.commit(x, 2, 2, 0, NONE, 9);
        c.due("commits()", x.commits(), 3);
    }

    private void registers() {
        c.sentence("A register, as it was committed. BAD (which may be one, too): none such.");
        PipeForge x = new PipeForge();
        int[] none = {MIN, -1, 8, MAX};
        for (int k = 0; k < 8; k++) {
            c.due("register(" + k + ")", x.register(k), 0);
            x.code(1, k, 0, 0, 20 + k);
        }
        x.code(1, 0, 0, 0, BAD);
        for (int cycle = 0; cycle <= 12; cycle++) {
            for (int k = 0; k < 8; k++) {
                int want = k == 0 && cycle >= 12 ? BAD : 20 + k;
                c.due("register(" + k + ") in cycle " + cycle, x.register(k), cycle >= 4 + k ? want : 0);
            }
            for (int k : none) {
                c.due("register(" + k + ")", x.register(k), BAD);
            }
            x.run(1);
        }
    }

    private void places() {
        c.sentence("A place of memory, as it was committed. BAD as above.");
        PipeForge x = new PipeForge();
        int[] none = {MIN, -1, 64, MAX};
        x.memory(0, BAD);
        x.code(1, 1, 0, 0, 5);
        x.code(6, 0, 0, 1, 63);
        x.code(6, 0, 0, 1, 0);
        for (int cycle = 0; cycle <= 10; cycle++) {
            c.due("place(0) in cycle " + cycle, x.place(0), cycle >= 9 ? 5 : BAD);
            c.due("place(63) in cycle " + cycle, x.place(63), cycle >= 8 ? 5 : 0);
            c.due("place(1)", x.place(1), 0);
            c.due("place(62)", x.place(62), 0);
            for (int k : none) {
                c.due("place(" + k + ")", x.place(k), BAD);
            }
            x.run(1);
        }
    }

    private void wholeLine() {
        c.sentence("How many threads went the whole line.");
        PipeForge x = Checks.on("f/r/x/y/v/q/a/w");
        x.code(8, 0, 0, 0, 0);
        x.code(7, 0, 0, 0, 3);
        x.code(8, 0, 0, 0, 0);
        // v of the branch is in cycle 6; the stop comes in cycle 7, and the four threads before it are thrown out.
        int[] retired = {0, 0, 0, 0, 0, 0, 0, 0, 1, 2, 2, 2, 2, 2, 3, 3};
        for (int cycle = 0; cycle < retired.length; cycle++) {
            c.due("retired() in cycle " + cycle, x.retired(), retired[cycle]);
            x.run(1);
        }
        c.due("cycle()", x.cycle(), 14);
        x.latency(0, 1);
        c.due("retired(), begun anew", x.retired(), 0);
        // The stop alone is one, too.
        PipeForge y = new PipeForge();
        y.run(3);
        c.due("retired() before a stop", y.retired(), 0);
        y.run(1);
        c.due("retired() with a stop", y.retired(), 1);
        // More than a thousand are counted.
        PipeForge z = everySecondCycle();
        z.run(3000);
        c.due("retired(), two in two cycles", z.retired(), 2999);
    }

    private void theorem() {
        c.sentence("Whether the commits so far (of the first 1,000) are, in their order, those of the program one by one.");
        PipeForge x = everySecondCycle();
        c.due("faithful(), cycle 0", x.faithful(), true);
        x.run(1);
        c.due("faithful(), no commit yet", x.faithful(), true);
        x.run(1998);
        c.due("faithful(), 999 commits", x.faithful(), true);
        x.run(1);
        c.due("faithful(), 1,000 commits", x.faithful(), true);
        x.run(2);
        c.due("faithful(), 1,001 commits", x.faithful(), true);
        x.run(3000);
        c.due("faithful(), 2,501 commits", x.faithful(), true);
        x.memory(0, 0);
        c.due("faithful(), begun anew", x.faithful(), true);
        // As many steps without a commit as there may be between two of them: 39 jumps from the last one back.
        PipeForge y = Checks.on("frxvq/aw");
        y.code(8, 0, 0, 0, 0);
        y.code(9, 0, 0, 0, 39);
        for (int k = 2; k < 40; k++) {
            y.code(9, 0, 0, 0, k == 2 ? 0 : k - 1);
        }
        for (int k = 0; k < 15; k++) {
            y.run(3000);
            c.due("faithful(), far apart", y.faithful(), true);
        }
        c.due("commits(), far apart", y.commits() > 1000, true);
        // Nothing but jumps.
        PipeForge z = new PipeForge();
        z.code(9, 0, 0, 0, 0);
        z.run(3000);
        c.due("faithful(), no commit at all", z.faithful(), true);
    }

    private void tells() {
        c.sentence("0 stages, 1 instructions, 2 signs collected; 3 .. 9 the stage of f, r, x, v, q, a, w,"
            + " 10 of y (BAD without). BAD: another number.");
        PipeForge x = new PipeForge();
        int[] others = {MIN, -2, -1, 11, 12, MAX};
        for (int what : others) {
            c.due("told(" + what + ")", x.told(what), BAD);
        }
        int[] first = {4, 0, 0, 0, 0, 1, 1, 1, 2, 3, BAD};
        for (int what = 0; what <= 10; what++) {
            c.due("told(" + what + ")", x.told(what), first[what]);
        }
        Checks.line(x, "f/r/x/v/q/a/y/w");
        for (int k = 0; k < 40; k++) {
            x.code(0, 0, 0, 0, 0);
        }
        for (int k = 0; k < 30; k++) {
            x.unit(32);
        }
        int[] full = {8, 40, 30, 0, 1, 2, 3, 4, 5, 7, 6};
        for (int what = 0; what <= 10; what++) {
            c.due("told(" + what + ")", x.told(what), full[what]);
        }
        for (int what : others) {
            c.due("told(" + what + ")", x.told(what), BAD);
        }
        x.line();
        Checks.line(x, "frxvq/aw");
        int[] least = {2, 40, 0, 0, 0, 0, 0, 0, 1, 1, BAD};
        for (int what = 0; what <= 10; what++) {
            c.due("told(" + what + ")", x.told(what), least[what]);
        }
    }
}
