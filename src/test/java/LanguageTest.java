import java.lang.reflect.Constructor;
import java.lang.reflect.Field;
import java.lang.reflect.Method;
import java.lang.reflect.Modifier;
import java.nio.file.Files;
import java.nio.file.Path;
import java.util.Arrays;
import java.util.List;
import java.util.TreeSet;
import java.util.regex.Matcher;
import java.util.regex.Pattern;

/** The document's face, and the rules of LANGUAGE.md that can be looked for. */
public final class LanguageTest {
    private static final List<String> FACE = List.of(
        "int cell(int,int,int)", "int ofCell(int,int)", "int list(int,int)", "int ofList(int)", "int mourner(int,int,int)",
        "int ofMourner(int,int)", "int change(int,int,int)", "int become(int,int)", "int as(int,int)", "int feed(long,int)",
        "int text(int)", "int law(int,int,int,int)", "int years(int)", "int loose(int)", "int then(int,int)",
        "int all(int,int)", "int dry(int)", "int eased(int,int)", "int cellFor(int,int)", "int comesFor(int,int)",
        "int kindFor(int,int)", "int folded(int,int,int)", "int topFor(int)", "int route(int,int)", "int parts()",
        "int mends()", "int game(int)", "int which(int,int)", "int sorry(int,int,int)", "int odds(int,int,int)",
        "int seed(int)", "int voice(int,int,int)", "int trace(int)", "int sheet(int,int,int)", "int put(int,int,int)",
        "int move(int,int,int,int,int)", "int wets(int)", "int judge(int)", "int image()", "int restore()", "int tell(int)",
        "int check()", "int count(int)", "int told(int)");

    private LanguageTest() {
    }

    public static void main(String[] args) throws Exception {
        face();
        classes();
        text(Files.readString(Path.of("src/main/java/GreatCambric.java")));
        Due.end();
    }

    private static String told(Method m) {
        StringBuilder b = new StringBuilder(m.getReturnType().getSimpleName()).append(' ').append(m.getName()).append('(');
        for (Class<?> p : m.getParameterTypes()) {
            b.append(b.charAt(b.length() - 1) == '(' ? "" : ",").append(p.getSimpleName());
        }
        return b.append(')').toString();
    }

    private static boolean hidden(int modifiers) {
        return Modifier.isPrivate(modifiers);
    }

    private static void face() {
        Due.of("rule 1");
        TreeSet<String> open = new TreeSet<>();
        TreeSet<String> names = new TreeSet<>();
        FACE.forEach(f -> names.add(f.substring(4, f.indexOf('('))));
        for (Method m : GreatCambric.class.getDeclaredMethods()) {
            if (!hidden(m.getModifiers()) && !m.isSynthetic()) {
                open.add(told(m));
                Due.due(told(m), Modifier.PUBLIC, m.getModifiers());
            } else {
                Due.due(m.getName() + " is a public one's name", 0, names.contains(m.getName()) ? 1 : 0);
            }
        }
        Due.due("the face: " + open, 1, open.equals(new TreeSet<>(FACE)) ? 1 : 0);
        for (Class<?> c : GreatCambric.class.getDeclaredClasses()) {
            for (Method m : c.getDeclaredMethods()) {
                Due.due(m + " is a public one's name", 0, names.contains(m.getName()) ? 1 : 0);
            }
        }
        for (Field f : GreatCambric.class.getDeclaredFields()) {
            Due.due(f.getName() + " hidden", 1, hidden(f.getModifiers()) ? 1 : 0);
        }
        Constructor<?>[] all = GreatCambric.class.getDeclaredConstructors();
        Due.due(1, all.length);
        Due.due(0, all[0].getParameterCount());
        Due.due(Modifier.PUBLIC, all[0].getModifiers());
        Due.due(Modifier.PUBLIC | Modifier.FINAL, GreatCambric.class.getModifiers());
    }

    private static void classes() {
        Due.of("rules 2, 5, 11");
        Class<?>[] inside = GreatCambric.class.getDeclaredClasses();
        Due.due("classes", 1, inside.length < 12 ? 1 : 0);
        for (Class<?> c : inside) {
            Due.due(c + " static", 1, Modifier.isStatic(c.getModifiers()) ? 1 : 0);
            Due.due(c + " not open", 0, c.getModifiers() & (Modifier.PUBLIC | Modifier.PROTECTED));
        }
        for (Class<?> c : inside) {
            members(c);
        }
        members(GreatCambric.class);
    }

    private static void members(Class<?> c) {
        int fields = 0;
        for (Field f : c.getDeclaredFields()) {
            if (Modifier.isStatic(f.getModifiers())) {
                Due.due(f + " final", 1, Modifier.isFinal(f.getModifiers()) ? 1 : 0);
            } else if (!f.isSynthetic()) {
                fields++;
            }
        }
        Due.due(c + ": fields", 1, fields <= 20 ? 1 : 0);
        for (Method m : c.getDeclaredMethods()) {
            Due.due(m + ": parameters", 1, m.getParameterCount() <= 7 ? 1 : 0);
        }
    }

    private static void text(String source) {
        Due.of("rules 2 to 8, 13");
        String bare = source.replaceAll("(?s)/\\*.*?\\*/", "").replaceAll("//[^\n]*", "");
        String unquoted = bare.replaceAll("\"[^\"\n]*\"", "\"\"").replaceAll("'[^'\n]*'", "' '");
        String words = "throw|throws|try|catch|finally|synchronized|assert|import|package|protected|native|volatile|transient"
            + "|lambda|var|Object|Thread|Random|Class|Runtime|Exception|Error|equals|hashCode|toString|double|float";
        Matcher m = Pattern.compile("\\b(" + words + ")\\b|->|::|@").matcher(unquoted);
        while (m.find()) {
            Due.due(m.group() + " stands in the file", 0, 1);
        }
        Matcher library = Pattern.compile("\\b(System|Math|Integer|Long|Arrays)\\.(\\w+)").matcher(unquoted);
        List<String> allowed = Arrays.asList("System.arraycopy", "Math.max", "Math.min", "Integer.bitCount");
        while (library.find()) {
            Due.due(library.group() + " is listed", 1, allowed.contains(library.group()) ? 1 : 0);
        }
        Due.due("signs are 1 to 127", 1, source.chars().allMatch(ch -> ch > 0 && ch < 128) ? 1 : 0);
        methodsAreShort(bare);
    }

    /** A method begins where a line 4 or 8 blanks in ends with ") {", and ends at the brace under it. */
    private static void methodsAreShort(String bare) {
        String[] lines = bare.split("\n");
        for (int i = 0; i < lines.length; i++) {
            if (lines[i].matches("( {4}| {8})[\\w\\[\\]. ]+\\(.*\\) \\{") && !lines[i].matches(" *(if|for|while|switch|else) .*")) {
                String end = lines[i].replaceAll("\\S.*", "}");
                int j = i;
                while (j < lines.length && !lines[j].equals(end)) {
                    j++;
                }
                Due.due(lines[i].trim() + " is " + (j - i + 1) + " lines long", 1, j - i + 1 <= 60 ? 1 : 0);
            }
        }
    }
}
