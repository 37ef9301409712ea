import java.lang.reflect.Field;

/**
 * Promise 15, the other answer. By the terms a line never commits anything but what the program says, so faithful()
 * is false for no calls; to see that it compares, the commits that the object holds are changed behind its back.
 */
public final class FaithfulComparisonTest {
    private static final int PARTS = 4;

    private final Checks c = new Checks("faithful compares");

    public static void main(String[] args) throws ReflectiveOperationException {
        new FaithfulComparisonTest().all();
    }

    private void all() throws ReflectiveOperationException {
        c.sentence("Whether the commits so far (of the first 1,000) are, in their order, those of the program one by one.");
        eachPart();
        order();
        oneTooMany();
        behindTheStop();
        lastOfThousand();
        c.end();
    }

    private static Object held(Object owner, String name) throws ReflectiveOperationException {
        Field field = owner.getClass().getDeclaredField(name);
        field.setAccessible(true);
        return field.get(owner);
    }

    private static int[] parts(PipeForge x) throws ReflectiveOperationException {
        return (int[]) held(held(x, "log"), "parts");
    }

    /** A number, a store, a load, and what goes out: four commits, all with the value 6. */
    private static PipeForge ended() {
        PipeForge x = new PipeForge();
        x.code(1, 1, 0, 0, 6);
        x.code(6, 0, 0, 1, 9);
        x.code(5, 2, 0, 0, 9);
        x.code(8, 0, 2, 0, 0);
        x.run(3000);
        return x;
    }

    private void eachPart() throws ReflectiveOperationException {
        PipeForge x = ended();
        c.due("commits()", x.commits(), 4);
        int[] parts = parts(x);
        for (int k = 0; k < 4 * PARTS; k++) {
            c.due("faithful()", x.faithful(), true);
            parts[k]++;
            c.due("faithful(), part " + k % PARTS + " of commit " + k / PARTS + " changed", x.faithful(), k % PARTS == 3);
            parts[k]--;
        }
        c.due("faithful(), as it was", x.faithful(), true);
    }

    private void order() throws ReflectiveOperationException {
        PipeForge x = ended();
        int[] parts = parts(x);
        for (int k = 0; k < PARTS; k++) {
            int kept = parts[k];
            parts[k] = parts[PARTS + k];
            parts[PARTS + k] = kept;
        }
        c.due("faithful(), the first two changed over", x.faithful(), false);
    }

    /** The program has come to its stop, so that one commit more is none of its own. */
    private void oneTooMany() throws ReflectiveOperationException {
        PipeForge x = ended();
        Object log = held(x, "log");
        Field kept = log.getClass().getDeclaredField("kept");
        kept.setAccessible(true);
        System.arraycopy(parts(x), 0, parts(x), 4 * PARTS, PARTS);
        kept.setInt(log, 5);
        c.due("faithful(), one too many", x.faithful(), false);
        kept.setInt(log, 3);
        c.due("faithful(), so far", x.faithful(), true);

        // Nor has a program without an end of its own any commit, if it has none in its round.
        PipeForge y = new PipeForge();
        y.code(9, 0, 0, 0, 0);
        y.run(3000);
        kept.setInt(held(y, "log"), 1);
        c.due("faithful(), one of none", y.faithful(), false);
    }

    /** What stands behind a stop is none of the program's, even if a commit looks like it. */
    private void behindTheStop() throws ReflectiveOperationException {
        PipeForge x = new PipeForge();
        x.code(1, 1, 0, 0, 6);
        x.code(0, 0, 0, 0, 0);
        x.code(1, 1, 0, 0, 6);
        x.run(3000);
        c.due("commits()", x.commits(), 1);
        c.due("faithful()", x.faithful(), true);
        Object log = held(x, "log");
        Field kept = log.getClass().getDeclaredField("kept");
        kept.setAccessible(true);
        System.arraycopy(parts(x), 0, parts(x), PARTS, PARTS);
        kept.setInt(log, 2);
        c.due("faithful(), one from behind the stop", x.faithful(), false);
    }

    private void lastOfThousand() throws ReflectiveOperationException {
        PipeForge x = Checks.on("frxvq/aw");
        x.code(1, 5, 0, 0, 7);
        x.code(9, 0, 0, 0, 0);
        x.run(3000);
        c.due("commits()", x.commits(), 1500);
        c.due("faithful()", x.faithful(), true);
        parts(x)[999 * PARTS + 2]++;
        c.due("faithful(), the last one kept changed", x.faithful(), false);
    }
}
