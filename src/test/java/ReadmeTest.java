import java.io.IOException;
import java.lang.reflect.Method;
import java.nio.file.Files;
import java.nio.file.Path;
import java.util.List;
import java.util.regex.Matcher;
import java.util.regex.Pattern;

/** Makes the calls of the example in README.md; each must answer what stands behind it there. */
public final class ReadmeTest {
    private static final Pattern TEXT = Pattern.compile("for \\(char sign : \"(.*)\"\\.toCharArray\\(\\)\\) forge\\.unit\\(sign\\);");
    private static final Pattern CALL = Pattern.compile("forge\\.(\\w+)\\((.*)\\); +// (-?\\w+)(:.*)?");

    public static void main(String[] args) throws IOException, ReflectiveOperationException {
        Checks c = new Checks("README.md");
        List<String> lines = Files.readAllLines(Path.of("README.md"));
        int from = lines.indexOf("```java") + 1;
        c.due("the example begins with a new object", lines.get(from).equals("PipeForge forge = new PipeForge();"), true);
        PipeForge forge = new PipeForge();
        int calls = 0;
        for (int k = from + 1; k < lines.size() && !lines.get(k).equals("```"); k++) {
            make(c, forge, lines.get(k));
            calls++;
        }
        c.due("the example has calls", calls > 10, true);
        c.end();
    }

    private static void make(Checks c, PipeForge forge, String line) throws ReflectiveOperationException {
        Matcher text = TEXT.matcher(line);
        if (text.matches()) {
            for (char sign : text.group(1).toCharArray()) {
                c.due("unit(" + sign + ")", forge.unit(sign), true);
            }
            return;
        }
        Matcher call = CALL.matcher(line);
        if (!call.matches()) {
            c.due("a line that the test can read: " + line, false, true);
            return;
        }
        String got = String.valueOf(answer(forge, call.group(1), call.group(2)));
        c.due(line.trim() + " but got " + got, got.equals(call.group(3)), true);
    }

    private static Object answer(PipeForge forge, String name, String said) throws ReflectiveOperationException {
        String[] words = said.isEmpty() ? new String[0] : said.split(", ");
        Class<?>[] types = new Class<?>[words.length];
        Object[] values = new Object[words.length];
        for (int k = 0; k < words.length; k++) {
            types[k] = int.class;
            values[k] = Integer.valueOf(words[k]);
        }
        Method method = PipeForge.class.getMethod(name, types);
        return method.invoke(forge, values);
    }
}
