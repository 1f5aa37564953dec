import java.io.File;
import java.io.IOException;
import java.lang.reflect.Method;
import java.lang.reflect.Modifier;
import java.nio.file.Files;
import java.nio.file.Path;
import java.util.List;
import java.util.regex.Matcher;
import java.util.regex.Pattern;

/** README.md tells what is so: its example is made call by call. It is run from the project's folder. */
public final class ReadmeTest {
    private static final Pattern CALL = Pattern.compile("keeper\\.(\\w+)\\(([^)]*)\\); +// (-?\\d+|true|false): .+");
    private static final Path TESTS = Path.of("src/test/java");

    private static int wrong = 0;

    private static void wrong(String what) {
        wrong++;
        System.out.println(what);
    }

    private static Method methodOf(String name) {
        for (Method m : ModeKeeper.class.getDeclaredMethods()) {
            if (m.getName().equals(name) && Modifier.isPublic(m.getModifiers())) {
                return m;
            }
        }
        throw new IllegalArgumentException("the face has no " + name);
    }

    private static Object made(ModeKeeper x, String name, String arguments) throws ReflectiveOperationException {
        Method m = methodOf(name);
        String[] words = arguments.split(", ");
        Object[] values = new Object[words.length];
        for (int i = 0; i < words.length; i++) {
            boolean isFlag = m.getParameterTypes()[i] == boolean.class;
            values[i] = isFlag ? (Object) Boolean.valueOf(words[i]) : (Object) Integer.valueOf(words[i]);
        }
        return m.invoke(x, values);
    }

    private static void exampleAnswersWhatItSays(List<String> lines) throws ReflectiveOperationException {
        ModeKeeper x = new ModeKeeper();
        for (String line : lines) {
            Matcher call = CALL.matcher(line);
            if (call.matches()) {
                String got = String.valueOf(made(x, call.group(1), call.group(2)));
                if (!got.equals(call.group(3))) {
                    wrong("README.md: " + line + " -- answered " + got);
                }
            } else if (line.startsWith("keeper.")) {
                wrong("README.md: a call of the example can't be read: " + line);
            }
        }
    }

    private static void everyCallIsTold(List<String> lines) {
        for (Method m : ModeKeeper.class.getDeclaredMethods()) {
            String name = m.getName();
            if (Modifier.isPublic(m.getModifiers())) {
                if (lines.stream().noneMatch(line -> line.startsWith("keeper." + name + "("))) {
                    wrong("README.md: the example has no " + name);
                }
                if (lines.stream().noneMatch(line -> line.startsWith("| `" + name + "("))) {
                    wrong("README.md: the table of calls has no " + name);
                }
            }
        }
    }

    private static void everyTestIsTold(List<String> lines) {
        File[] tests = TESTS.toFile().listFiles((folder, name) -> name.endsWith(".java"));
        if (tests == null || tests.length == 0) {
            wrong("no tests in " + TESTS);
            return;
        }
        for (File test : tests) {
            if (lines.stream().noneMatch(line -> line.startsWith("- `" + TESTS + "/" + test.getName() + "`"))) {
                wrong("README.md: the list of tests has no " + test.getName());
            }
        }
    }

    public static void main(String[] args) throws IOException, ReflectiveOperationException {
        List<String> lines = Files.readAllLines(Path.of("README.md"));
        exampleAnswersWhatItSays(lines);
        everyCallIsTold(lines);
        everyTestIsTold(lines);
        System.out.println(wrong == 0 ? "README.md tells what is so" : wrong + " things are told wrongly");
        if (wrong != 0) {
            System.exit(1);
        }
    }
}
