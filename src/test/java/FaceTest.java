import java.lang.reflect.Constructor;
import java.lang.reflect.Field;
import java.lang.reflect.Method;
import java.lang.reflect.Modifier;
import java.util.Set;
import java.util.TreeSet;

/** The public face, and nothing beside it. */
public final class FaceTest {
    private static final String[] METHODS = {"boolean unit(int)", "int line()", "int code(int,int,int,int,int)",
        "boolean memory(int,int)", "boolean latency(int,int)", "int run(int)", "int cycle()", "boolean ended()",
        "int commits()", "int commit(int,int)", "int register(int)", "int place(int)", "int retired()",
        "boolean faithful()", "int told(int)"};

    public static void main(String[] args) {
        Checks c = new Checks("face");
        c.due("BAD", PipeForge.BAD, -1);
        c.due("NONE", PipeForge.NONE, -2);
        c.due("the class is public and final", Modifier.toString(PipeForge.class.getModifiers()).equals("public final"), true);
        Constructor<?>[] made = PipeForge.class.getDeclaredConstructors();
        c.due("constructors", made.length, 1);
        c.due("the constructor", made[0].toString().equals("public PipeForge()"), true);
        methods(c);
        for (Field field : PipeForge.class.getDeclaredFields()) {
            boolean face = field.getName().equals("BAD") || field.getName().equals("NONE");
            String want = face ? "public static final" : "private";
            c.due(field.toString(), Modifier.toString(field.getModifiers()).startsWith(want), true);
        }
        c.end();
    }

    private static void methods(Checks c) {
        Set<String> want = new TreeSet<>();
        for (String method : METHODS) {
            want.add(method);
        }
        Set<String> names = new TreeSet<>();
        for (Method method : PipeForge.class.getDeclaredMethods()) {
            if (!Modifier.isPrivate(method.getModifiers())) {
                String said = method.toString().replace("PipeForge.", "").replace("public ", "");
                c.due("a method of the face: " + said, want.remove(said), true);
                c.due("public: " + said, Modifier.isPublic(method.getModifiers()), true);
                names.add(method.getName());
            }
        }
        c.due("methods that are missing: " + want, want.size(), 0);
        for (Method method : PipeForge.class.getDeclaredMethods()) {
            if (Modifier.isPrivate(method.getModifiers())) {
                c.due("a name of its own: " + method, names.contains(method.getName()), false);
            }
        }
    }
}
