import java.io.IOException;
import java.lang.reflect.Constructor;
import java.lang.reflect.Field;
import java.lang.reflect.Method;
import java.lang.reflect.Modifier;
import java.nio.file.Files;
import java.nio.file.Path;
import java.util.Set;
import java.util.TreeSet;
import java.util.regex.Pattern;

/** The class has the document's face and no other, and its text keeps the rules that can be seen in words. */
public final class FaceTest {
    private static final Check CHECK = new Check("FaceTest");
    private static final String[] FACE = {
        "int feed(int,int,int,int,int)", "boolean end(int)", "int install(int,int,int,int,int)", "int sample(int)",
        "boolean on()", "boolean cut()", "int go(int)", "int state()", "int register(int)", "int ram(int)", "int words()",
        "int word(int)", "int frames()", "int frame(int,int)", "int heard(int,int)", "int count(int)", "int plain(int)",
        "int plainly(int)", "int plainByte(int)", "int plainFrame(int)", "int plainHeard(int,int)", "int strays()"
    };

    private FaceTest() {
    }

    public static void main(String[] args) throws IOException {
        members();
        classesInside();
        words();
        CHECK.end();
    }

    private static void members() {
        Class<?> c = SensorNode.class;
        CHECK.holds("public and final", Modifier.isPublic(c.getModifiers()) && Modifier.isFinal(c.getModifiers()));
        CHECK.holds("no package", c.getPackageName().isEmpty());
        Set<String> want = new TreeSet<>(Set.of(FACE));
        Set<String> names = new TreeSet<>();
        for (Method m : c.getDeclaredMethods()) {
            if (!Modifier.isPrivate(m.getModifiers())) {
                String text = m.toString().replace("public ", "").replace("SensorNode.", "");
                CHECK.holds("in the face: " + text, Modifier.isPublic(m.getModifiers()) && want.remove(text));
                names.add(m.getName());
            }
        }
        CHECK.holds("nothing of the face is missing: " + want, want.isEmpty());
        for (Method m : c.getDeclaredMethods()) {
            CHECK.holds("no private " + m, !Modifier.isPrivate(m.getModifiers()) || !names.contains(m.getName()));
        }
        for (Field f : c.getDeclaredFields()) {
            CHECK.holds("private: " + f, Modifier.isPrivate(f.getModifiers()));
            CHECK.holds("final, if static: " + f, !Modifier.isStatic(f.getModifiers()) || Modifier.isFinal(f.getModifiers()));
        }
        Constructor<?>[] made = c.getDeclaredConstructors();
        CHECK.holds("one public constructor", made.length == 1 && Modifier.isPublic(made[0].getModifiers()));
    }

    private static void classesInside() {
        Class<?>[] inside = SensorNode.class.getDeclaredClasses();
        CHECK.holds("at most twelve classes", inside.length < 12);
        for (Class<?> c : inside) {
            CHECK.holds("static and not open: " + c, Modifier.isStatic(c.getModifiers())
                && !Modifier.isPublic(c.getModifiers()) && !Modifier.isProtected(c.getModifiers()));
            int fields = 0;
            for (Field f : c.getDeclaredFields()) {
                fields += Modifier.isStatic(f.getModifiers()) ? 0 : 1;
            }
            CHECK.holds("at most twenty fields: " + c, fields <= 20);
            for (Method m : c.getDeclaredMethods()) {
                CHECK.holds("at most seven parameters: " + m, m.getParameterCount() <= 7);
            }
        }
    }

    private static void words() throws IOException {
        String text = Files.readString(Path.of("src/main/java/SensorNode.java"));
        String code = text.replaceAll("(?s)/\\*.*?\\*/", "").replaceAll("//.*", "");
        for (String word : new String[] {"throw", "throws", "try", "catch", "synchronized", "assert", "import", "package", "System",
            "Math", "Integer", "Object", "hashCode", "equals", "toString", "double", "float", "String"}) {
            CHECK.holds("no " + word, !Pattern.compile("\\b" + word + "\\b").matcher(code).find());
        }
        CHECK.holds("no lambda, no method reference", !code.contains("->") && !code.contains("::"));
        // Rows are made with the object: what follows 'new' stands in a field's or a constructor's line.
        for (String line : code.split("\n")) {
            if (line.contains("new ")) {
                CHECK.holds("made in a constructor: " + line, line.matches(" +private final .*|            (packed|guest|int\\[\\] words) = .*|        (Plan told|tray|node|plainMachine) = .*"));
            }
        }
    }
}
