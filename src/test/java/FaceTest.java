import java.io.IOException;
import java.lang.reflect.Constructor;
import java.lang.reflect.Field;
import java.lang.reflect.Method;
import java.lang.reflect.Modifier;
import java.nio.file.Files;
import java.nio.file.Path;
import java.util.HashSet;
import java.util.Set;
import java.util.TreeSet;
import java.util.regex.Pattern;

/** The face of the document, no more and no less, and those rules of LANGUAGE.md that can be seen from here. */
public final class FaceTest {
    public static void main(String[] args) throws IOException {
        methods();
        members(BentPlain.class);
        nested();
        constructors();
        sizes();
        words();
        Due.end();
    }

    private static void methods() {
        Set<String> due = new TreeSet<>(Calls.FACE);
        Set<String> got = new TreeSet<>();
        Set<String> names = new HashSet<>();
        for (Method m : BentPlain.class.getDeclaredMethods()) {
            if (Modifier.isPublic(m.getModifiers())) {
                got.add(m.getName() + m.getParameterCount());
                names.add(m.getName());
                boolean isLong = m.getName().equals("write");
                Due.holds(m + " answers", m.getReturnType() == (isLong ? long.class : int.class));
                for (int i = 0; i < m.getParameterCount(); i++) {
                    Due.holds(m + " takes", m.getParameterTypes()[i] == (isLong && i == 2 ? long.class : int.class));
                }
                Due.holds(m + " is of an object", !Modifier.isStatic(m.getModifiers()));
            }
        }
        Due.holds("the face is " + due + ", not " + got, due.equals(got));
        for (Class<?> c : BentPlain.class.getDeclaredClasses()) {
            for (Method m : c.getDeclaredMethods()) {
                Due.holds(m + " bears no name of the face", !names.contains(m.getName()));
            }
        }
        for (Method m : BentPlain.class.getDeclaredMethods()) {
            Due.holds(m + " is of the face or private under another name",
                Modifier.isPublic(m.getModifiers()) || Modifier.isPrivate(m.getModifiers()) && !names.contains(m.getName()));
        }
    }

    private static void members(Class<?> c) {
        Due.holds("public and final", Modifier.isPublic(c.getModifiers()) && Modifier.isFinal(c.getModifiers()));
        Due.holds("one constructor", c.getDeclaredConstructors().length == 1);
        Due.holds("public", Modifier.isPublic(c.getDeclaredConstructors()[0].getModifiers()));
        Due.is("arguments", c.getDeclaredConstructors()[0].getParameterCount(), 0);
        for (Field f : c.getDeclaredFields()) {
            Due.holds(f + " is private", Modifier.isPrivate(f.getModifiers()));
        }
        statics(c);
    }

    private static void statics(Class<?> c) {
        for (Field f : c.getDeclaredFields()) {
            Due.holds(f + " is no static state", !Modifier.isStatic(f.getModifiers())
                || Modifier.isFinal(f.getModifiers()) && f.getType().isPrimitive());
        }
    }

    private static void nested() {
        for (Class<?> c : BentPlain.class.getDeclaredClasses()) {
            Due.holds(c + " is static", Modifier.isStatic(c.getModifiers()));
            Due.holds(c + " isn't public", !Modifier.isPublic(c.getModifiers()) && !Modifier.isProtected(c.getModifiers()));
            statics(c);
        }
    }

    /** Rule 12: who makes an object hands out nothing of it, so no class inside takes another one when it is made. */
    private static void constructors() {
        for (Class<?> c : BentPlain.class.getDeclaredClasses()) {
            for (Constructor<?> made : c.getDeclaredConstructors()) {
                for (Class<?> type : made.getParameterTypes()) {
                    Due.holds(made + " takes numbers alone", type.isPrimitive());
                }
            }
        }
    }

    /** Rule 11. */
    private static void sizes() {
        Class<?>[] inside = BentPlain.class.getDeclaredClasses();
        Due.holds("twelve classes at most, not " + (1 + inside.length), inside.length < 12);
        size(BentPlain.class);
        for (Class<?> c : inside) {
            size(c);
        }
    }

    private static void size(Class<?> c) {
        int fields = 0;
        for (Field f : c.getDeclaredFields()) {
            fields += Modifier.isStatic(f.getModifiers()) ? 0 : 1;
        }
        Due.holds(c + " has twenty fields at most, not " + fields, fields <= 20);
        for (Method m : c.getDeclaredMethods()) {
            Due.holds(m + " takes seven at most", m.getParameterCount() <= 7);
        }
    }

    private static void words() throws IOException {
        String source = Files.readString(Path.of("src/main/java/BentPlain.java"));
        String code = source.replaceAll("(?s)/\\*.*?\\*/", " ").replaceAll("//[^\n]*", " ").replaceAll("\"[^\"]*\"", "s");
        String[] banned = {"\\bthrow\\b", "\\btry\\b", "\\bcatch\\b", "\\bsynchronized\\b", "\\bassert\\b", "->", "::",
            "Exact\\b", "\\bpackage\\b", "\\bThread\\b", "\\bRandom\\b", "System\\.(?!arraycopy)", "import (?!java\\.util\\.Arrays;)"};
        for (String word : banned) {
            Due.holds("no " + word, !Pattern.compile(word).matcher(code).find());
        }
        Due.holds("signs 1 to 127 alone", source.chars().allMatch(c -> c >= 1 && c <= 127));
    }
}
