import java.io.File;
import java.lang.reflect.Method;
import java.lang.reflect.Modifier;
import java.nio.file.Files;
import java.nio.file.Path;
import java.util.regex.Matcher;
import java.util.regex.Pattern;

/** README.md: its examples answer what stands behind them, and it names each call and each test. */
public final class ReadmeTest {
    private static final String BEGIN = "GreatCambric x = new GreatCambric();";
    private static final Pattern EXAMPLE = Pattern.compile("x\\.(\\w+)\\(([^)]*)\\); *// (-?\\d+)(:.*)?");

    private ReadmeTest() {
    }

    public static void main(String[] args) throws Exception {
        String page = Files.readString(Path.of("README.md"));
        examples(page);
        namesEachCall(page);
        namesEachTest(page);
        Due.end();
    }

    private static void examples(String page) throws ReflectiveOperationException {
        Due.of("examples");
        Matcher blocks = Pattern.compile("(?s)```java\n(.*?)```").matcher(page);
        int found = 0;
        while (blocks.find()) {
            GreatCambric x = null;
            for (String line : blocks.group(1).split("\n")) {
                Matcher example = EXAMPLE.matcher(line);
                if (line.equals(BEGIN)) {
                    x = new GreatCambric();
                } else if (x != null && example.matches()) {
                    Due.due(line, Long.parseLong(example.group(3)), answer(x, example.group(1), example.group(2)));
                } else {
                    Due.due("no example: " + line, 1, 0);
                }
            }
            found++;
        }
        Due.due("there are some", 1, found > 0 ? 1 : 0);
    }

    private static long answer(GreatCambric x, String name, String given) throws ReflectiveOperationException {
        for (Method m : GreatCambric.class.getMethods()) {
            if (m.getName().equals(name) && m.getReturnType() == int.class && m.getDeclaringClass() == GreatCambric.class) {
                return (Integer) m.invoke(x, arguments(m.getParameterTypes(), given));
            }
        }
        Due.due("no such call: " + name, 1, 0);
        return 0;
    }

    private static Object[] arguments(Class<?>[] types, String given) {
        String[] told = given.isBlank() ? new String[0] : given.split(", ");
        Object[] all = new Object[told.length];
        for (int i = 0; i < told.length; i++) {
            long v = Long.decode(told[i].replaceAll("L$", ""));
            all[i] = i < types.length && types[i] == long.class ? (Object) v : (Object) (int) v;
        }
        return all;
    }

    private static void namesEachCall(String page) {
        Due.of("calls");
        for (Method m : GreatCambric.class.getDeclaredMethods()) {
            if (Modifier.isPublic(m.getModifiers())) {
                Due.due(m.getName() + " is named", 1, page.contains("`" + m.getName() + "`") ? 1 : 0);
            }
        }
    }

    private static void namesEachTest(String page) {
        Due.of("tests");
        File[] tests = new File("src/test/java").listFiles((folder, name) -> name.endsWith("Test.java"));
        Due.due("there are some", 1, tests != null && tests.length > 0 ? 1 : 0);
        for (File test : tests == null ? new File[0] : tests) {
            String name = test.getName().replace(".java", "");
            Due.due(name + " is named", 1, page.contains("`" + name + "`") ? 1 : 0);
        }
    }
}
