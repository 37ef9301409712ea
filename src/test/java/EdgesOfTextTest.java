/** The edges of THE TEXT of a line (Terms) and of promise 3, one method for each sentence. */
public final class EdgesOfTextTest {
    private static final String LONGEST = "f/r/x/y/v/q/a/w";
    private static final String SHORTEST = "frxvq/aw";

    private final Checks c = new Checks("edges of the text");

    public static void main(String[] args) {
        new EdgesOfTextTest().all();
    }

    private void all() {
        twoToEight();
        atLeastOneAction();
        eachOnce();
        inThisOrder();
        laterThanQ();
        oneY();
        beginsWithF();
        collectedIsGone();
        beginsAnew();
        firstWrong();
        endsTooEarly();
        breakAtTheEnd();
        goesOnAsItWas();
        c.end();
    }

    /** Read by a new object, and behind other texts, of which nothing may be left. */
    private void taken(String text, int stages) {
        String[] before = {"", "fr/xvq/a/w", LONGEST, "f/r/x/y", "frxvq/aw/", "/"};
        for (String earlier : before) {
            PipeForge x = Checks.on(earlier);
            c.due("line() of " + text + " behind " + earlier, Checks.line(x, text), stages);
            c.due("told(0) with " + text, x.told(0), stages);
            c.due("told(10) with " + text, x.told(10) == PipeForge.BAD, text.indexOf('y') < 0);
        }
    }

    private void refused(String text, int first) {
        String[] before = {"", LONGEST, "f/r/x/y", "frxvq/aw/", "/"};
        for (String earlier : before) {
            PipeForge x = Checks.on(earlier);
            c.due("line() of " + text + " behind " + earlier, Checks.line(x, text), -1 - first);
            c.due("told(0) behind " + text, x.told(0), earlier.equals(LONGEST) ? 8 : 4);
            c.due("told(2) behind " + text, x.told(2), 0);
        }
    }

    private void twoToEight() {
        c.sentence("STAGES with / between, 2 to 8 of them");
        refused("frxvqaw", 5);
        String[] texts = {SHORTEST, "frx/vq/aw", "fr/xvq/a/w", "f/r/xvq/a/w", "f/r/x/vq/a/w", "f/r/x/v/q/a/w", LONGEST};
        for (int k = 0; k < texts.length; k++) {
            taken(texts[k], 2 + k);
        }
        refused(LONGEST + "/", 15);
        refused(LONGEST + "/y", 15);
        refused(LONGEST + "/w", 15);
    }

    private void atLeastOneAction() {
        c.sentence("each a row of at least one ACTION");
        refused("/" + SHORTEST, 0);
        refused("/", 0);
        refused("//", 0);
        for (int k = 1; k < LONGEST.length(); k += 2) {
            refused(LONGEST.substring(0, k) + "/" + LONGEST.substring(k), k + 1);
        }
        refused(SHORTEST + "/", 9);
        refused(SHORTEST + "//", 9);
        for (int at = 3; at <= 6; at++) {
            taken(String.join("/", ("frxvqaw".substring(0, at) + "y" + "frxvqaw".substring(at)).split("")), 8);
        }
    }

    private void eachOnce() {
        c.sentence("f r x v q a w, each once");
        for (int k = 0; k < SHORTEST.length(); k++) {
            char action = SHORTEST.charAt(k);
            if (action == '/') {
                continue;
            }
            refused(SHORTEST.substring(0, k + 1) + action + SHORTEST.substring(k + 1), k + 1);
            refused(SHORTEST.substring(0, k + 1) + "/" + action + SHORTEST.substring(k + 1), k + 2);
            refused(SHORTEST + action, 8);
            refused(SHORTEST + "/" + action, 9);
        }
        refused("rxvq/aw", 0);
        refused("fxvq/aw", 1);
        refused("frvq/aw", 2);
        refused("frxq/aw", 3);
        refused("frxv/aw", 5);
        refused("frxvq/w", 6);
        refused("frxvq/a", 7);
    }

    private void inThisOrder() {
        c.sentence("in this order over all stages");
        String[] texts = {"rfxvq/aw", "fxrvq/aw", "frvxq/aw", "frxqv/aw", "frxva/qw", "frxv/aqw", "frxvq/wa"};
        int[] first = {0, 1, 2, 3, 4, 5, 6};
        for (int k = 0; k < texts.length; k++) {
            refused(texts[k], first[k]);
        }
        String[] apart = {"r/fxvq/aw", "f/x/rvq/aw", "fr/v/xq/aw", "frx/q/v/aw", "frxv/a/q/w", "frxvq/w/a"};
        int[] firstApart = {0, 2, 3, 4, 5, 6};
        for (int k = 0; k < apart.length; k++) {
            refused(apart[k], firstApart[k]);
        }
    }

    private void laterThanQ() {
        c.sentence("a in a later stage than q");
        refused("frxvqa/w", 5);
        refused("f/r/x/v/qa/w", 9);
        refused("frxvqya/w", 6);
        refused("frxv/qyaw", 7);
        taken("frxvq/aw", 2);
        taken("frxvqy/aw", 2);
        taken("frxvq/yaw", 2);
        taken("frxvq/y/aw", 3);
    }

    private void oneY() {
        c.sentence("and, or not, one y, behind x and before w");
        taken("frxvq/aw", 2);
        refused("yfrxvq/aw", 0);
        refused("fyrxvq/aw", 1);
        refused("fryxvq/aw", 2);
        refused("fr/yxvq/aw", 3);
        taken("frxyvq/aw", 2);
        taken("frx/y/vq/aw", 4);
        taken("frxvyq/aw", 2);
        taken("frxvqy/aw", 2);
        taken("frxvq/ayw", 2);
        taken("frxvq/a/y/w", 4);
        refused("frxvq/awy", 8);
        refused("frxvq/aw/y", 9);
        refused("frxyyvq/aw", 4);
        refused("frx/y/yvq/aw", 6);
        refused("frxyvyq/aw", 5);
        refused("frxyvqy/aw", 6);
        refused("frxyvq/ayw", 8);
        refused("frxyvq/awy", 9);
    }

    private void beginsWithF() {
        c.sentence("(Stage 0 begins with f.)");
        for (int u = 32; u <= 126; u++) {
            PipeForge x = new PipeForge();
            x.unit(u);
            c.due("line() of " + (char) u, x.line(), u == 'f' ? -2 : -1);
        }
    }

    private void collectedIsGone() {
        c.sentence("What was collected becomes the line, and is gone: how many stages");
        PipeForge x = new PipeForge();
        c.due("line() of nothing", x.line(), -1);
        c.due("line()", Checks.line(x, LONGEST), 8);
        c.due("told(2)", x.told(2), 0);
        c.due("line() of nothing", x.line(), -1);
        c.due("told(0)", x.told(0), 8);
        c.due("line() of 30 signs", Checks.line(x, SHORTEST + "w".repeat(22)), -9);
        c.due("told(2)", x.told(2), 0);
        c.due("line() behind a wrong one", Checks.line(x, SHORTEST), 2);
        c.due("told(0)", x.told(0), 2);
    }

    /** A store, a load and a number that goes out; on the line of a new object it ends in cycle 17. */
    private static PipeForge running(int cycles) {
        PipeForge x = new PipeForge();
        x.code(1, 7, 0, 0, 6);
        x.code(6, 0, 0, 7, 63);
        x.code(5, 1, 0, 0, 63);
        x.code(8, 0, 1, 0, 0);
        x.memory(0, 5);
        x.memory(63, 8);
        x.latency(7, 2);
        for (int k = 0; k < cycles; k++) {
            x.run(1);
        }
        return x;
    }

    private void beginsAnew() {
        c.due("the cycle that it ends in", running(0).run(3000), 17);
        c.sentence("it begins anew then: cycle 0, no threads, registers as at first, memory as it was told");
        for (int cycles = 0; cycles <= 20; cycles++) {
            PipeForge x = running(cycles);
            String when = "behind " + cycles + " cycles";
            c.due(when + ": line()", Checks.line(x, "fr/xvq/a/w"), 4);
            c.begunAnew(x, when);
            c.due(when + ": place(0)", x.place(0), 5);
            c.due(when + ": place(63)", x.place(63), 8);
            // The program and the latencies stay, and the threads that come are those of a line never run.
            PipeForge y = running(0);
            for (int k = 0; k < 18; k++) {
                c.due(when + ": run(1)", x.run(1), y.run(1));
                c.alike(when, x, y);
            }
        }
    }

    private void firstWrong() {
        c.sentence("- 1 less the number of its first sign that is wrong");
        for (int k = 0; k < LONGEST.length(); k++) {
            refused(LONGEST.substring(0, k) + "?" + LONGEST.substring(k + 1), k);
            refused(LONGEST.substring(0, k) + "?" + LONGEST.substring(k), k);
            refused(LONGEST.substring(0, k) + "??", k);
        }
        refused(LONGEST + "?", 15);
        refused(LONGEST + "f".repeat(15), 15);
        int[] signs = {32, 46, 48, 70, 81, 94, 126};
        for (int u : signs) {
            refused("frx" + (char) u + "q/aw", 3);
        }
        refused("frxvq/aw/f", 9);
        refused(" ".repeat(30), 0);
    }

    private void endsTooEarly() {
        c.sentence("(if it ends too early, the one behind the last");
        for (int k = 0; k < LONGEST.length(); k++) {
            refused(LONGEST.substring(0, k), k);
        }
        for (int k = 0; k < SHORTEST.length(); k++) {
            refused(SHORTEST.substring(0, k), k);
        }
    }

    private void breakAtTheEnd() {
        c.sentence("so with a / at the end, which may stand behind any stage with an action but an eighth one,"
            + " also that of w)");
        for (int k = 1; k < LONGEST.length(); k += 2) {
            refused(LONGEST.substring(0, k) + "/", k + 1);
        }
        refused("frxvq/aw/", 9);
        refused("fr/xvq/a/w/", 11);
        refused("f/r/x/v/q/a/w/", 14);
        refused("f/r/x/v/q/a/yw/", 15);
        // An eighth stage has no / behind it: this very sign is wrong, not the one behind.
        refused("f/r/x/y/v/q/a/w/", 15);
        refused("f/r/x/v/q/a/y/w/", 15);
    }

    private void goesOnAsItWas() {
        c.sentence("the line goes on as it was");
        String[] wrong = {"", "f", SHORTEST + "/", "f/r/x/v/qa/w", LONGEST + "/", "?"};
        for (int cycles = 0; cycles <= 18; cycles++) {
            PipeForge x = running(cycles);
            PipeForge y = running(cycles);
            String text = wrong[cycles % wrong.length];
            c.due("line() of " + text, Checks.line(x, text) < 0, true);
            for (int k = 0; k < 6; k++) {
                c.alike("a wrong line behind " + cycles + " cycles", x, y);
                c.due("run(1)", x.run(1), y.run(1));
            }
        }
    }
}
