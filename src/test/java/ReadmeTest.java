import java.lang.reflect.Method;
import java.nio.file.Files;
import java.nio.file.Path;
import java.util.regex.Matcher;
import java.util.regex.Pattern;

/** The example of README.md answers what its comments say. */
public final class ReadmeTest {
    private static final Pattern CALL = Pattern.compile("store\\.(\\w+)\\(([-\\d, ]*)\\); +// +(-?\\d+):.*");

    public static void main(String[] args) throws Exception {
        OnceStores store = new OnceStores();
        int looked = 0;
        int wrong = 0;
        for (String line : Files.readAllLines(Path.of("README.md"))) {
            Matcher m = CALL.matcher(line);
            if (m.matches()) {
                int got = answer(store, m.group(1), m.group(2));
                looked++;
                if (got != Integer.parseInt(m.group(3))) {
                    wrong++;
                    System.out.println(line + " answered " + got);
                }
            } else if (line.startsWith("store.")) {
                wrong++;
                System.out.println("no answer is told: " + line);
            }
        }
        System.out.println(looked + " calls of README.md, " + wrong + " not as told");
        if (looked == 0 || wrong != 0) {
            System.exit(1);
        }
    }

    private static int answer(OnceStores store, String name, String numbers) throws Exception {
        String[] texts = numbers.isEmpty() ? new String[0] : numbers.split(", ");
        Object[] given = new Object[texts.length];
        Class<?>[] types = new Class<?>[texts.length];
        for (int i = 0; i < texts.length; i++) {
            given[i] = Integer.valueOf(texts[i]);
            types[i] = int.class;
        }
        Method call = OnceStores.class.getMethod(name, types);
        return (Integer) call.invoke(store, given);
    }
}
