import java.io.IOException;
import java.lang.reflect.InvocationTargetException;
import java.lang.reflect.Method;
import java.lang.reflect.Modifier;
import java.nio.file.Files;
import java.nio.file.Path;
import java.util.regex.Matcher;
import java.util.regex.Pattern;

/** The calls that README.md shows answer what it says, and it tells every call. */
public final class ReadmeTest {
    private static final Check CHECK = new Check("ReadmeTest");
    private static final Pattern CALL = Pattern.compile("x\\.(\\w+)\\((.*)\\); *// (true|false|-?\\d+)(:.*)?");

    private ReadmeTest() {
    }

    public static void main(String[] args) throws IOException, ReflectiveOperationException {
        String text = Files.readString(Path.of("README.md"));
        example(between(text, "```java\n", "```"));
        everyCall(between(text, "| --- |", "\n\n"));
        CHECK.end();
    }

    private static String between(String text, String before, String behind) {
        int from = text.indexOf(before);
        int to = text.indexOf(behind, from + before.length());
        CHECK.holds("README.md has a part between '" + before + "' and '" + behind + "'", from >= 0 && to >= 0);
        return from >= 0 && to >= 0 ? text.substring(from + before.length(), to) : "";
    }

    private static void example(String code) throws ReflectiveOperationException {
        SensorNode x = new SensorNode();
        String[] lines = code.split("\n");
        CHECK.due("the first line makes a node", lines[0].equals("SensorNode x = new SensorNode();"), true);
        for (int i = 1; i < lines.length; i++) {
            Matcher call = CALL.matcher(lines[i]);
            boolean told = call.matches();
            CHECK.holds("a call and its answer: " + lines[i], told);
            if (told) {
                CHECK.due(lines[i], answer(x, call.group(1), call.group(2)), number(call.group(3)));
            }
        }
    }

    private static long number(String text) {
        return text.equals("true") ? 1 : text.equals("false") ? 0 : Long.decode(text);
    }

    private static long answer(SensorNode x, String name, String list) throws ReflectiveOperationException {
        String[] texts = list.isEmpty() ? new String[0] : list.split(", ");
        Object[] numbers = new Object[texts.length];
        Class<?>[] types = new Class<?>[texts.length];
        for (int i = 0; i < texts.length; i++) {
            numbers[i] = (int) number(texts[i]);
            types[i] = int.class;
        }
        try {
            return number(SensorNode.class.getMethod(name, types).invoke(x, numbers).toString());
        } catch (InvocationTargetException thrown) {
            throw new IllegalStateException(name + " threw", thrown);
        }
    }

    private static void everyCall(String table) {
        for (Method m : SensorNode.class.getDeclaredMethods()) {
            if (Modifier.isPublic(m.getModifiers())) {
                CHECK.holds("told: " + m.getName(), table.contains("`" + m.getName() + "("));
            }
        }
    }
}
