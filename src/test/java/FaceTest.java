import java.lang.reflect.Constructor;
import java.lang.reflect.Field;
import java.lang.reflect.Member;
import java.lang.reflect.Method;
import java.lang.reflect.Modifier;
import java.nio.file.Files;
import java.nio.file.Path;
import java.util.Arrays;
import java.util.HashSet;
import java.util.Set;
import java.util.TreeSet;
import java.util.regex.Matcher;
import java.util.regex.Pattern;
import java.util.stream.Collectors;

/** The public face of the document, and what LANGUAGE.md rules out as far as it can be seen from outside. */
public final class FaceTest {
    private static final String[] FACE = {
        "anew()", "broken()", "byteOf(int)", "clean()", "commit(int,int)", "compare(boolean)", "count(int)", "crash(int)",
        "cut(int)", "drop(int)", "entry(int,int,int)", "feed(int,int,int,int,int)", "file(int,int)", "head(int,int)",
        "lie(int,int)", "load(int,int,int)", "owned(int)", "pack(int,int)", "packByte(int,int)", "quota(int,int)",
        "remove(int,int)", "rotten()", "row(int,int)", "spoil(int,int,int)", "sub(int,int,int)"};
    private static final String[] RULED_OUT = {
        "\\bthrow\\b", "\\btry\\b", "\\bcatch\\b", "\\bsynchronized\\b", "\\bassert\\b", "->", "::", "\\bprotected\\b",
        "\\bvar\\b", "\\bThread\\b", "\\bSystem\\.(?!arraycopy)", "\\bRandom\\b", "\\bpackage\\b", "\\bObject\\b",
        "import (?!java\\.util\\.Arrays;)", "Exact\\("};

    private static int wrong = 0;

    private static void due(String what, Object got, Object want) {
        if (!got.equals(want)) {
            wrong++;
            System.out.println(what + " is " + got + ", due is " + want);
        }
    }

    public static void main(String[] args) throws Exception {
        constants();
        members();
        nested();
        source();
        System.out.println(wrong == 0 ? "the face is as due" : wrong + " faults of the face");
        if (wrong != 0) {
            System.exit(1);
        }
    }

    private static void constants() {
        due("BAD", OnceStores.BAD, -1);
        due("NONE", OnceStores.NONE, -2);
        due("FULL", OnceStores.FULL, -3);
        due("CLASH", OnceStores.CLASH, -4);
        due("MISSING", OnceStores.MISSING, -5);
        due("OVER", OnceStores.OVER, -6);
    }

    private static boolean isHidden(Member m) {
        return Modifier.isPrivate(m.getModifiers()) || m.isSynthetic();
    }

    private static void members() {
        Class<?> c = OnceStores.class;
        due("public and final", c.getModifiers(), Modifier.PUBLIC | Modifier.FINAL);
        Set<String> names = new TreeSet<>();
        Set<String> calls = new TreeSet<>();
        for (Method m : c.getDeclaredMethods()) {
            if (!isHidden(m)) {
                due(m + " modifiers", m.getModifiers(), Modifier.PUBLIC);
                due(m + " type", m.getReturnType(), int.class);
                names.add(m.getName());
                calls.add(m.getName() + Arrays.stream(m.getParameterTypes()).map(Class::getName)
                        .collect(Collectors.joining(",", "(", ")")));
            }
        }
        due("calls", calls, new TreeSet<>(Arrays.asList(FACE)));
        for (Method m : c.getDeclaredMethods()) {
            due(m + " bears the name of a public one", isHidden(m) && names.contains(m.getName()), false);
        }
        int seen = 0;
        for (Field f : c.getDeclaredFields()) {
            seen += isHidden(f) ? 0 : 1;
            due(f + " is static and not final", Modifier.isStatic(f.getModifiers()) && !Modifier.isFinal(f.getModifiers()),
                    false);
        }
        due("public constants", seen, 6);
        Constructor<?>[] made = c.getDeclaredConstructors();
        due("constructors", made.length, 1);
        due("the constructor's parameters", made[0].getParameterCount(), 0);
        due("the constructor is public", Modifier.isPublic(made[0].getModifiers()), true);
    }

    private static void nested() {
        Class<?>[] inside = OnceStores.class.getDeclaredClasses();
        due("at most twelve classes", inside.length < 12, true);
        Set<String> face = new HashSet<>();
        for (String call : FACE) {
            face.add(call.substring(0, call.indexOf('(')));
        }
        for (Class<?> c : inside) {
            due(c + " is static", Modifier.isStatic(c.getModifiers()), true);
            due(c + " is seen", Modifier.isPublic(c.getModifiers()) || Modifier.isProtected(c.getModifiers()), false);
            due(c + " has few fields", c.getDeclaredFields().length <= 20, true);
            for (Method m : c.getDeclaredMethods()) {
                due(m + " has few parameters", m.getParameterCount() <= 7, true);
                due(m + " bears the name of a public one", face.contains(m.getName()), false);
            }
        }
    }

    private static void source() throws Exception {
        Path file = Path.of("src/main/java/OnceStores.java");
        String text = Files.readString(file).replaceAll("(?s)/\\*.*?\\*/", "").replaceAll("//[^\n]*", "");
        for (String word : RULED_OUT) {
            Matcher m = Pattern.compile(word).matcher(text);
            due("the source has " + word, m.find(), false);
        }
        int brackets = 0;
        int start = 0;
        String[] lines = text.split("\n");
        for (int i = 0; i < lines.length; i++) {
            if (lines[i].matches("\\s+[\\w\\[\\]<> ]+\\([^;]*\\) \\{") && !lines[i].matches("\\s+(for|if|while|switch).*")) {
                start = i;
            }
            brackets += lines[i].chars().filter(ch -> ch == '{').count() - lines[i].chars().filter(ch -> ch == '}').count();
            due("line " + (i + 1) + " is in a long method", i - start > 60 && brackets > 2, false);
        }
    }
}
