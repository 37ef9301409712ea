/** The edges of THE LINE (Terms), cycle by cycle, one method for each sentence. */
public final class EdgesOfLineTest {
    private static final int MAX = Integer.MAX_VALUE;

    private final Checks c = new Checks("edges of the line");

    public static void main(String[] args) {
        new EdgesOfLineTest().all();
    }

    private void all() {
        cyclesBeginAtOne();
        stageZeroHasNone();
        nextNumber();
        nextStageHasNone();
        registersThatItReads();
        youngestHasGiven();
        notCommittedInThisCycle();
        givenInAnEarlierCycle();
        loadGivesLater();
        hasTheseValuesThen();
        olderStores();
        storesThatHoldNobody();
        asksForWhatIsThereNow();
        answersLate();
        answersLongAgo();
        goesOn();
        youngerThreadsAreOut();
        stopEnds();
        firesOnce();
        c.end();
    }

    /** Each instruction is five numbers. */
    private static PipeForge program(String text, int[]... rows) {
        PipeForge x = Checks.on(text);
        for (int[] row : rows) {
            x.code(row[0], row[1], row[2], row[3], row[4]);
        }
        return x;
    }

    private static int[] number(int d, int i) {
        return new int[] {1, d, 0, 0, i};
    }

    private static int[] load(int d, int place) {
        return new int[] {5, d, 0, 0, place};
    }

    private static int[] store(int b, int place) {
        return new int[] {6, 0, 0, b, place};
    }

    private static int[] out(int a) {
        return new int[] {8, 0, a, 0, 0};
    }

    private static int[] jump(int goal) {
        return new int[] {9, 0, 0, 0, goal};
    }

    /** The cycles of all commits, and of the end. */
    private void cycles(String what, PipeForge x, int... want) {
        int end = x.run(3000);
        c.due(what + ": commits()", x.commits(), want.length - 1);
        for (int k = 0; k < want.length - 1; k++) {
            c.due(what + ": commit(" + k + ", 3)", x.commit(k, 3), want[k]);
        }
        c.due(what + ": run(3000)", end, want[want.length - 1]);
        c.due(what + ": faithful()", x.faithful(), true);
    }

    private void cyclesBeginAtOne() {
        c.sentence("THE LINE goes by CYCLES 1, 2, ..");
        String[] texts = {"frxvq/aw", "fr/xvq/aw", "fr/xvq/a/w", "f/r/x/y/v/q/a/w"};
        int[] stages = {2, 3, 4, 8};
        for (int k = 0; k < texts.length; k++) {
            PipeForge x = program(texts[k], number(1, 5));
            c.due("cycle()", x.cycle(), 0);
            for (int cycle = 1; cycle <= stages[k]; cycle++) {
                c.due("commits() before cycle " + cycle, x.commits(), 0);
                c.due("run(1)", x.run(1), cycle);
            }
            c.commit(x, 0, 0, 1, 5, stages[k]);
        }
    }

    private void stageZeroHasNone() {
        c.sentence("In a cycle first, if stage 0 has none, a new thread comes there");
        // The out waits in stage 0 from cycle 2 to 5, and so nothing comes there before cycle 6.
        cycles("a reader waits in stage 0", program("fr/xvq/a/w", number(1, 5), out(1), out(0)), 4, 8, 9, 10);
        // Behind a v in stage 1 the stage 0 is empty, and the new thread comes in the next cycle.
        cycles("behind a jump", program("fr/xvq/a/w", jump(2), out(0), out(0)), 6, 7);
    }

    private void nextNumber() {
        c.sentence("with the next number (0 at first; behind each thread one more than its own)");
        PipeForge x = program("fr/xvq/a/w", number(0, 3), number(1, 4), number(2, 5));
        cycles("0, 1, 2 and a stop", x, 4, 5, 6, 7);
        for (int k = 0; k < 3; k++) {
            c.commit(x, k, 0, k, 3 + k, 4 + k);
        }
        // Behind number -1 comes 0: it is younger than the stop, whatever it is, and is not to be seen.
        PipeForge y = program("f/r/x/v/q/a/w", jump(-1));
        cycles("behind -1", y, 11);
        c.due("retired()", y.retired(), 2);
        PipeForge z = program("f/r/x/v/q/a/w", jump(MAX));
        cycles("behind the largest number", z, 11);
        c.due("retired()", z.retired(), 2);
    }

    private void nextStageHasNone() {
        c.sentence("a thread FIRES, if the next stage has none (or it is in the last one)");
        // The load stands before a until cycle 18; in this very cycle those behind it go on, the last stage first.
        PipeForge x = program("fr/xvq/a/w", load(1, 0), number(2, 1), number(3, 1), number(4, 1));
        x.latency(0, 16);
        cycles("behind a late load", x, 19, 20, 21, 22, 23);
        // With nobody in the way each thread has its own cycle in each stage.
        cycles("a full line", program("frxvq/aw", out(0), out(0), out(0)), 2, 3, 4, 5);
    }

    /** The cycle in which the second thread is gone, behind a number for register 3. */
    private static int secondGone(int kind, int d, int a, int b) {
        PipeForge x = program("fr/xvq/a/w", number(3, 1), new int[] {kind, d, a, b, 5});
        while (x.retired() < 2 && x.cycle() < 50) {
            x.run(1);
        }
        return x.cycle();
    }

    private void registersThatItReads() {
        c.sentence("r: each register that it reads (2, 3, 4, 6, 7: A and B; 5, 8: A) is READY");
        for (int kind = 0; kind <= 9; kind++) {
            boolean readsA = kind >= 2 && kind <= 8;
            boolean readsB = readsA && kind != 5 && kind != 8;
            c.due("kind " + kind + " with D", secondGone(kind, 3, 1, 2), 5);
            c.due("kind " + kind + " with A", secondGone(kind, 2, 3, 1), readsA ? 8 : 5);
            c.due("kind " + kind + " with B", secondGone(kind, 2, 1, 3), readsB ? 8 : 5);
            c.due("kind " + kind + " with both", secondGone(kind, 2, 3, 3), readsA ? 8 : 5);
            c.due("kind " + kind + " with none", secondGone(kind, 2, 2, 2), 5);
        }
    }

    private void youngestHasGiven() {
        c.sentence("of the older threads in the line that commit it and have not fired w, the youngest has given it");
        // The number gave in cycle 2, but the load behind it not before its a of cycle 4; in cycle 5 it commits.
        PipeForge x = program("fr/xyvq/a/w", number(1, 5), load(1, 3), out(1));
        x.memory(3, 44);
        cycles("an older one has given", x, 4, 5, 9, 10);
        c.due("commit(2, 2)", x.commit(2, 2), 44);
        // The load gives late, but the number behind it counts, and it gave in cycle 3.
        PipeForge y = program("fr/xyvq/a/w", load(1, 3), number(1, 5), out(1));
        y.memory(3, 44);
        cycles("an older one gives late", y, 4, 5, 7, 8);
        c.due("commit(2, 2)", y.commit(2, 2), 5);
        // The older writer fires w in cycle 6, just when what the younger one gave in cycle 5 is read.
        PipeForge z = program("fr/xy/v/q/a/w", number(1, 5), out(0), out(0), number(1, 6), out(1));
        cycles("an older one commits now", z, 6, 7, 8, 9, 11, 12);
        c.due("commit(4, 2)", z.commit(4, 2), 6);
        // A younger writer holds nobody.
        cycles("a younger one", program("fr/xvq/a/w", out(1), number(1, 5)), 4, 5, 6);
    }

    private void notCommittedInThisCycle() {
        c.sentence("without one, it was not committed in this cycle");
        int[] fill = out(0);
        cycles("committed in this cycle", program("fr/xvq/a/w", number(1, 5), fill, fill, out(1)), 4, 5, 6, 8, 9);
        cycles("in the cycle before", program("fr/xvq/a/w", number(1, 5), fill, fill, fill, out(1)), 4, 5, 6, 7, 8, 9);
        cycles("another register", program("fr/xvq/a/w", number(1, 5), fill, fill, out(2)), 4, 5, 6, 7, 8);
        cycles("the first one", program("fr/xvq/a/w", number(0, 5), number(2, 5), number(2, 5), out(0)), 4, 5, 6, 8, 9);
        cycles("the last one", program("fr/xvq/a/w", number(7, 5), fill, fill, out(7)), 4, 5, 6, 8, 9);
        int[] outWithD = {8, 1, 0, 0, 0};
        cycles("D of what goes out", program("fr/xvq/a/w", outWithD, fill, fill, out(1)), 4, 5, 6, 7, 8);
        int[] storeWithD = {6, 1, 0, 0, 1};
        cycles("D and place of a store", program("fr/xvq/a/w", storeWithD, fill, fill, out(1)), 4, 5, 6, 7, 8);
        // A register that was never committed holds nobody in cycle 1.
        cycles("in the first cycle", program("frxvq/aw", out(0)), 2, 3);
    }

    private void givenInAnEarlierCycle() {
        c.sentence("A thread has GIVEN, if there is an y, and it fired the stage of y");
        String[] texts = {"fr/xvq/a/w", "frxy/vq/a/w", "fr/xy/vq/a/w", "fr/x/vy/q/a/w", "fr/xv/qy/a/w", "fr/xvq/ay/w",
            "fr/xvq/a/yw", "f/r/x/y/v/q/a/w", "frxvqy/aw", "frxvq/ayw", "frxvq/aw"};
        int[] first = {4, 4, 5, 6, 5, 4, 4, 8, 2, 2, 2};
        // Where w follows y at once, the giver commits in the cycle in which it could be read, and the reader waits.
        int[] second = {8, 5, 7, 9, 8, 8, 8, 11, 4, 4, 4};
        for (int k = 0; k < texts.length; k++) {
            PipeForge x = program(texts[k], number(1, 5), out(1));
            cycles(texts[k], x, first[k], second[k], second[k] + 1);
            c.due(texts[k] + ": commit(1, 2)", x.commit(1, 2), 5);
        }
    }

    private void loadGivesLater() {
        c.sentence("(kind 5 the later one of those of y and a)");
        String[] texts = {"frxy/vq/a/w", "fr/xyvq/a/w", "fr/xvq/ay/w", "fr/xvq/a/y/w", "fr/xvq/y/a/w", "fr/xvq/a/yw",
            "fr/xvq/a/w", "f/r/x/y/v/q/a/w"};
        int[] first = {4, 4, 4, 5, 5, 4, 4, 8};
        // A load gives at most one cycle before its commit, so that its reader waits for this one.
        int[] second = {8, 8, 8, 10, 10, 8, 8, 15};
        for (int k = 0; k < texts.length; k++) {
            PipeForge x = program(texts[k], load(1, 3), out(1));
            x.memory(3, 44);
            cycles(texts[k], x, first[k], second[k], second[k] + 1);
            c.due(texts[k] + ": commit(1, 2)", x.commit(1, 2), 44);
            // However early y is, nothing is given while the memory has not answered: 16 cycles behind q.
            x.latency(3, 16);
            int late = texts[k].equals("fr/xvq/y/a/w") ? 14 : 15;
            cycles(texts[k], x, first[k] + late, second[k] + late, second[k] + late + 1);
            c.due(texts[k] + ": commit(1, 2)", x.commit(1, 2), 44);
        }
    }

    private void hasTheseValuesThen() {
        c.sentence("It has these values then.");
        // Each out has the number before it, and the second number does not change what the first out has read.
        PipeForge x = program("fr/x/y/v/q/a/w", number(1, 5), out(1), number(1, 6), out(1));
        x.run(3000);
        int[] values = {5, 5, 6, 6};
        for (int k = 0; k < 4; k++) {
            c.due("commit(" + k + ", 2)", x.commit(k, 2), values[k]);
        }
        // A is given in the line, B is committed.
        PipeForge y = program("fr/xy/vq/a/w", number(2, 7), out(0), out(0), out(0), number(1, 5),
            new int[] {3, 3, 1, 2, 0});
        y.run(3000);
        c.due("register(3)", y.register(3), -2);
        c.due("faithful()", y.faithful(), true);
    }

    private void olderStores() {
        c.sentence("q, kind 5: of the older threads of kind 6 that were in the line when the cycle began,"
            + " each has fired w in an earlier cycle.");
        // The store fires w in cycle 4. A load that could ask in cycle 3 or 4 asks in 5, as does one that comes for 5.
        cycles("asks in 3", program("fr/xvq/a/w", store(0, 9), load(1, 9)), 4, 7, 8);
        cycles("asks in 4", program("fr/xvq/a/w", store(0, 9), out(0), load(1, 9)), 4, 5, 7, 8);
        cycles("asks in 5", program("fr/xvq/a/w", store(0, 9), out(0), out(0), load(1, 9)), 4, 5, 6, 7, 8);
        // With q in stage 0 the load comes in the cycle of the store's w, and waits.
        cycles("q in stage 0", program("frxvq/aw", store(0, 9), load(1, 9)), 2, 4, 5);
        cycles("q in stage 0, later", program("frxvq/aw", store(0, 9), out(0), load(1, 9)), 2, 3, 4, 5);
        // In the longest line the load stands at q from cycle 7 on, and asks in cycle 9.
        cycles("eight stages", program("f/r/x/y/v/q/a/w", store(0, 9), load(1, 9)), 8, 11, 12);
        // Each of them: the second store fires w in cycle 5.
        cycles("two stores", program("fr/xvq/a/w", store(0, 9), store(0, 8), load(1, 7)), 4, 5, 8, 9);
        // The store's place does not matter.
        cycles("another place", program("fr/xvq/a/w", store(0, 0), load(1, 63)), 4, 7, 8);
    }

    private void storesThatHoldNobody() {
        c.sentence("q, kind 5: of the older threads of kind 6");
        cycles("a younger store", program("fr/xvq/a/w", load(1, 9), store(0, 9)), 4, 5, 6);
        cycles("other kinds", program("fr/xvq/a/w", number(1, 2), out(0), load(2, 9), load(3, 9)), 4, 5, 6, 7, 8);
        cycles("a store that was thrown out", program("fr/xvq/a/w", jump(2), store(0, 9), load(1, 9)), 6, 7);
        // Only a load waits at q.
        cycles("a number", program("fr/xvq/a/w", store(0, 9), number(1, 2)), 4, 5, 6);
        cycles("a store", program("fr/xvq/a/w", store(0, 9), store(0, 9)), 4, 5, 6);
    }

    private void asksForWhatIsThereNow() {
        c.sentence("It asks for what is there now.");
        PipeForge x = program("fr/xvq/a/w", number(1, 5), store(1, 9), load(2, 9), store(0, 9), load(3, 9));
        x.memory(9, 70);
        x.run(3000);
        c.due("register(2), behind the first store", x.register(2), 5);
        c.due("register(3), behind the second one", x.register(3), 0);
        PipeForge y = program("fr/xvq/a/w", load(2, 9), number(1, 5), store(1, 9));
        y.memory(9, 70);
        y.latency(1, 16);
        y.run(3000);
        c.due("register(2), before a store", y.register(2), 70);
    }

    private void answersLate() {
        c.sentence("a, kind 5: so many cycles are gone since it fired q, as the place's LATENCY says (1 at first)");
        cycles("1 at first", program("fr/xvq/a/w", load(1, 0)), 4, 5);
        for (int latency = 1; latency <= 16; latency++) {
            PipeForge x = program("fr/xvq/a/w", load(1, 0));
            x.latency(0, latency);
            cycles("latency " + latency, x, 3 + latency, 4 + latency);
            PipeForge y = program("frxvq/aw", load(1, 0));
            y.latency(0, latency);
            cycles("latency " + latency, y, 1 + latency, 2 + latency);
        }
        // The latency is that of the place modulo 64, not of A + I.
        PipeForge z = program("fr/xvq/a/w", number(1, -3), new int[] {5, 2, 1, 0, 2});
        z.latency(7, 5);
        cycles("place 63", z, 4, 12, 13);
        // Only a load waits at a.
        PipeForge w = program("fr/xvq/a/w", store(0, 0), out(0), number(1, 0));
        w.latency(0, 16);
        cycles("other kinds", w, 4, 5, 6, 7);
    }

    private void answersLongAgo() {
        c.sentence(", or more.");
        // Between q and a is a stage, so that 2 cycles are gone in any case.
        int[] latencies = {1, 2, 3, 4};
        int[] first = {5, 5, 6, 7};
        for (int k = 0; k < latencies.length; k++) {
            PipeForge x = program("fr/xvq/y/a/w", load(1, 0));
            x.latency(0, latencies[k]);
            cycles("latency " + latencies[k], x, first[k], first[k] + 1);
        }
        // The second load asks in cycle 3 and comes to a, behind the first one, in cycle 18.
        PipeForge y = program("fr/xvq/y/a/w", load(1, 0), load(2, 1));
        y.latency(0, 16);
        y.latency(1, 2);
        cycles("answered long ago", y, 19, 20, 21);
        PipeForge z = program("fr/xvq/y/a/w", load(1, 0), load(2, 1));
        z.latency(0, 15);
        z.latency(1, 16);
        cycles("answered one cycle later", z, 18, 20, 21);
    }

    private void goesOn() {
        c.sentence("v, of kind 7 if it goes on at I, of kind 9");
        int[] skipped = out(0);
        int[] equal = {7, 0, 1, 1, 2};
        cycles("kind 7, A = B", program("fr/xvq/a/w", equal, skipped, out(0)), 6, 7);
        cycles("kind 9", program("fr/xvq/a/w", jump(2), skipped, out(0)), 6, 7);
        int[] notEqual = {7, 0, 1, 2, 3};
        cycles("kind 7, not", program("fr/xvq/a/w", number(1, 1), notEqual, out(0), out(0)), 4, 9, 10, 11);
        // Who goes on at the next instruction throws out, too; who goes on at itself never ends.
        cycles("the next one", program("fr/xvq/a/w", jump(1), out(0)), 6, 7);
        cycles("not, at the next one", program("fr/xvq/a/w", number(1, 1), new int[] {7, 0, 1, 2, 2}, out(0)), 4, 9, 10);
        PipeForge x = program("fr/xvq/a/w", jump(0));
        c.due("itself: run(3000)", x.run(3000), 3000);
        c.due("itself: ended()", x.ended(), false);
        // It comes in cycles 1, 3, 5, .. and is gone in 4, 6, 8, ..
        c.due("itself: retired()", x.retired(), 1499);
    }

    private void youngerThreadsAreOut() {
        c.sentence("all younger threads are out of the line, and the next number is I");
        PipeForge x = program("f/r/x/v/q/a/w", out(0), jump(5), out(0), out(0), out(0), number(1, 4));
        // v is in cycle 5; those of cycles 3, 4 and 5 are out, the one before it stays.
        cycles("three of them", x, 7, 12, 13);
        c.due("retired()", x.retired(), 4);
        PipeForge y = program("frxv/q/a/w", jump(2), out(0), out(0));
        cycles("none of them", y, 5, 6);
        // A jump that is thrown out does not go on, and a stop that is thrown out does not end.
        cycles("a jump", program("f/r/x/v/q/a/w", jump(3), jump(0), jump(0), out(0)), 11, 12);
        cycles("a stop", program("f/r/x/v/q/a/w", jump(2), new int[5], out(0)), 11, 12);
        // What a thrown out thread would commit holds nobody: the reader comes in cycle 5 and does not wait.
        cycles("a writer", program("f/r/x/yv/q/a/w", jump(2), number(1, 5), out(1)), 11, 12);
    }

    private void stopEnds() {
        c.sentence("w commits, and a stop (kind 0) ends the line: behind this cycle nothing is done.");
        PipeForge x = program("fr/xvq/a/w", out(0), new int[5], out(0), jump(0));
        for (int cycle = 1; cycle <= 5; cycle++) {
            c.due("run(1)", x.run(1), cycle);
            c.due("ended()", x.ended(), cycle == 5);
            c.due("commits()", x.commits(), cycle < 4 ? 0 : 1);
        }
        for (int k = 0; k < 3; k++) {
            c.due("run(3000)", x.run(3000), 5);
            c.due("commits()", x.commits(), 1);
            c.due("retired()", x.retired(), 2);
        }
    }

    private void firesOnce() {
        c.sentence("(So a thread may fire once in a cycle; one that comes to stage 0 in a cycle may fire in it.)");
        PipeForge x = program("frxvq/aw", number(1, 5));
        c.due("run(1)", x.run(1), 1);
        c.due("commits()", x.commits(), 0);
        c.due("run(1)", x.run(1), 2);
        c.due("commits()", x.commits(), 1);
        PipeForge y = program("f/r/x/y/v/q/a/w", out(0), out(0), out(0), out(0), out(0), out(0), out(0), out(0), out(0));
        cycles("one a cycle", y, 8, 9, 10, 11, 12, 13, 14, 15, 16, 17);
    }
}
