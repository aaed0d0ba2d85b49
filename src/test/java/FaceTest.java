import java.io.IOException;
import java.lang.reflect.Constructor;
import java.lang.reflect.Field;
import java.lang.reflect.Method;
import java.lang.reflect.Modifier;
import java.nio.file.Files;
import java.nio.file.Path;
import java.util.Arrays;
import java.util.Set;
import java.util.TreeSet;
import java.util.regex.Matcher;
import java.util.regex.Pattern;

/** The public face of the document, and those rules of LANGUAGE.md that a test can see. */
public final class FaceTest {
    private static final Due DUE = new Due();
    private static final Set<String> FACE = new TreeSet<>(Set.of(
        "encode(int,boolean)", "decode(int,boolean)", "draft(int)", "check()", "test()", "wire(int)", "finding(int)",
        "plan(int,int)", "calm()", "read(int,int,int)", "write(int,int,int,boolean,int,int,int,int)", "flush(int)",
        "step()", "drain()", "result(int)", "got(int)", "way(int)", "cut()", "sector(int,boolean)", "cached(int)",
        "state(int)", "count(int)"));

    public static void main(String[] args) throws IOException {
        methods();
        constructorsAndFields();
        classesInside();
        source();
        DUE.end();
    }

    private static String head(Method m) {
        StringBuilder b = new StringBuilder(m.getName()).append('(');
        String between = "";
        for (Class<?> c : m.getParameterTypes()) {
            b.append(between).append(c.getName());
            between = ",";
        }
        return b.append(')').toString();
    }

    private static void methods() {
        Set<String> names = new TreeSet<>();
        Set<String> seen = new TreeSet<>();
        FACE.forEach(h -> names.add(h.substring(0, h.indexOf('('))));
        for (Method m : StoragePath.class.getDeclaredMethods()) {
            if (Modifier.isPrivate(m.getModifiers())) {
                DUE.holds("private " + m.getName() + " bears no public name", !names.contains(m.getName()));
                DUE.holds("private " + m.getName() + " has at most 7 parameters", m.getParameterCount() <= 7);
            } else {
                DUE.holds(m + " is public, of an object, and answers an int", m.getReturnType() == int.class
                    && Modifier.isPublic(m.getModifiers()) && !Modifier.isStatic(m.getModifiers()));
                seen.add(head(m));
            }
        }
        DUE.holds("the methods are " + FACE + ", not " + seen, FACE.equals(seen));
    }

    private static void constructorsAndFields() {
        Constructor<?>[] made = StoragePath.class.getDeclaredConstructors();
        DUE.is("constructors", made.length, 1);
        DUE.holds("public, without parameters", Modifier.isPublic(made[0].getModifiers()) && made[0].getParameterCount() == 0);
        Set<String> constants = new TreeSet<>();
        for (Field f : StoragePath.class.getDeclaredFields()) {
            int m = f.getModifiers();
            if (!Modifier.isPrivate(m)) {
                DUE.holds(f + " is a constant", Modifier.isPublic(m) && Modifier.isStatic(m) && Modifier.isFinal(m));
                constants.add(f.getName());
            }
            DUE.holds(f + ", if static, is final", !Modifier.isStatic(m) || Modifier.isFinal(m));
        }
        DUE.holds("the constants", constants.equals(Set.of("NONE", "UNKNOWN", "OUTSIDE", "NOT", "FULL")));
        DUE.holds("a final class", Modifier.isFinal(StoragePath.class.getModifiers()));
    }

    private static void classesInside() {
        Class<?>[] inside = StoragePath.class.getDeclaredClasses();
        DUE.holds("at most some twelve classes", inside.length < 12);
        for (Class<?> c : inside) {
            int m = c.getModifiers();
            DUE.holds(c + " is static, not public", Modifier.isStatic(m) && !Modifier.isPublic(m) && !Modifier.isProtected(m));
            long fields = Arrays.stream(c.getDeclaredFields()).filter(f -> !Modifier.isStatic(f.getModifiers())).count();
            DUE.holds(c + " has at most twenty fields", fields <= 20);
        }
    }

    private static void source() throws IOException {
        String text = Files.readString(Path.of("src/main/java/StoragePath.java"));
        String code = text.replaceAll("(?s)/\\*.*?\\*/", " ").replaceAll("//[^\n]*", " ");
        Matcher banned = Pattern.compile("\\b(package|throws?|try|catch|synchronized|assert|System\\.(?!arraycopy)\\w*|var)\\b|->|::|static\\s*\\{").matcher(code);
        DUE.holds("a word that the language leaves out", !banned.find());
    }
}
