import java.util.ArrayList;
import java.util.HashSet;
import java.util.List;
import java.util.Set;

/** Promise 3: what was collected becomes the line; the first wrong sign is told. */
public final class P03LineTest {
    private static final String SIGNS = "frxvqawy/ F.z";

    public static void main(String[] args) {
        Checks c = new Checks("promise 3");
        written(c);
        everyPrefix(c);
        beginsAnew(c);
        goesOnAsItWas(c);
        c.end();
    }

    private static void written(Checks c) {
        String[] texts = {"frxvq/aw", "fr/xvq/a/w", "f/r/x/v/q/a/w", "f/r/x/y/v/q/a/w", "frxvqy/aw", "frxvq/ayw",
            "frxvq/y/aw", "frxvq/a/y/w"};
        int[] stages = {2, 4, 7, 8, 2, 2, 3, 4};
        for (int k = 0; k < texts.length; k++) {
            c.due(texts[k], Checks.line(new PipeForge(), texts[k]), stages[k]);
        }
        String[] wrong = {"", "f", "/", "r", "f/", "f//", "frxvqaw", "frxvq/a", "frxvq/aw/", "frxvq/aw//", "frxvq/aw/y",
            "frxvq/aw/f", "frxvq/awy", "fry", "y", "frxyy", "frxyvq/ya", "f/r/x/y/v/q/a/w/", "f/r/x/v/q/a/w/",
            "f/r/x/v/q/a/w/y", "frxvq/yaw/", "ff", "fx", "f r", "FR", "frxvq/q"};
        int[] first = {0, 1, 0, 0, 2, 2, 5, 7, 9, 9, 9, 9, 8, 2, 0, 4, 7, 15, 14, 14, 10, 1, 1, 1, 0, 6};
        for (int k = 0; k < wrong.length; k++) {
            c.due(wrong[k], Checks.line(new PipeForge(), wrong[k]), -1 - first[k]);
        }
    }

    /** All texts that the rule allows, listed by placing the signs and not by reading them. */
    private static List<String> allTexts() {
        List<String> orders = new ArrayList<>();
        orders.add("frxvqaw");
        for (int at = 3; at <= 6; at++) {
            orders.add("frxvqaw".substring(0, at) + "y" + "frxvqaw".substring(at));
        }
        List<String> texts = new ArrayList<>();
        for (String order : orders) {
            for (int breaks = 0; breaks < 1 << order.length() - 1; breaks++) {
                StringBuilder text = new StringBuilder();
                for (int k = 0; k < order.length(); k++) {
                    text.append(order.charAt(k));
                    if ((breaks >> k & 1) != 0) {
                        text.append('/');
                    }
                }
                int q = text.indexOf("q");
                if (text.substring(q, text.indexOf("a")).contains("/")) {
                    texts.add(text.toString());
                }
            }
        }
        return texts;
    }

    private static void everyPrefix(Checks c) {
        List<String> texts = allTexts();
        Set<String> whole = new HashSet<>(texts);
        Set<String> prefixes = new HashSet<>();
        for (String text : texts) {
            for (int k = 0; k <= text.length(); k++) {
                prefixes.add(text.substring(0, k));
            }
            if (text.split("/").length < 8) {
                prefixes.add(text + "/");
            }
        }
        for (String prefix : prefixes) {
            int stages = prefix.split("/").length;
            c.due(prefix, Checks.line(new PipeForge(), prefix), whole.contains(prefix) ? stages : -1 - prefix.length());
            for (int k = 0; k < SIGNS.length(); k++) {
                String longer = prefix + SIGNS.charAt(k);
                if (!prefixes.contains(longer)) {
                    c.due(longer, Checks.line(new PipeForge(), longer), -1 - prefix.length());
                    c.due(longer + "w", Checks.line(new PipeForge(), longer + "w"), -1 - prefix.length());
                }
            }
        }
        for (String text : texts) {
            PipeForge x = new PipeForge();
            c.due(text, Checks.line(x, text), text.split("/").length);
            for (int k = 0; k < 8; k++) {
                int at = text.indexOf("frxvqawy".charAt(k));
                int stage = at < 0 ? PipeForge.BAD : text.substring(0, at).replaceAll("[^/]", "").length();
                c.due(text + ": told(" + (3 + k) + ")", x.told(3 + k), stage);
            }
        }
    }

    private static PipeForge running() {
        PipeForge x = new PipeForge();
        x.code(1, 1, 0, 0, 5);
        x.code(6, 0, 1, 1, 2);
        x.memory(7, 3);
        x.memory(8, 4);
        x.run(3000);
        return x;
    }

    private static void beginsAnew(Checks c) {
        PipeForge x = running();
        c.due("place(7) as committed", x.place(7), 5);
        c.due("line()", Checks.line(x, "frxvq/aw"), 2);
        c.begunAnew(x, "line()");
        c.due("place(7) as told", x.place(7), 3);
        c.due("place(8) as told", x.place(8), 4);
        c.due("told(1)", x.told(1), 2);
        c.due("told(2)", x.told(2), 0);
        // No thread of the old line is left in the new one: a store in its last stage would commit at once.
        PipeForge y = new PipeForge();
        y.code(1, 1, 0, 0, 5);
        y.run(3);
        c.due("line()", Checks.line(y, "fr/xvq/a/w"), 4);
        c.due("run(3)", y.run(3), 3);
        c.due("commits()", y.commits(), 0);
        c.due("run(1)", y.run(1), 4);
        c.due("commits()", y.commits(), 1);
    }

    private static void goesOnAsItWas(Checks c) {
        PipeForge x = running();
        int cycle = x.cycle();
        c.due("line()", Checks.line(x, "f/r/x/v/qa/w"), -10);
        c.due("told(2)", x.told(2), 0);
        c.due("told(0)", x.told(0), 4);
        c.due("told(4)", x.told(4), 0);
        c.due("told(9)", x.told(9), 3);
        c.due("cycle()", x.cycle(), cycle);
        c.due("ended()", x.ended(), true);
        c.due("commits()", x.commits(), 2);
        c.due("register(1)", x.register(1), 5);
        c.due("place(7)", x.place(7), 5);
        PipeForge y = new PipeForge();
        y.code(1, 1, 0, 0, 5);
        y.run(3);
        c.due("line() of nothing", y.line(), -1);
        c.due("run(1)", y.run(1), 4);
        c.commit(y, 0, 0, 1, 5, 4);
    }
}
