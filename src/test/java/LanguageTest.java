import java.io.IOException;
import java.lang.reflect.Field;
import java.lang.reflect.Method;
import java.lang.reflect.Modifier;
import java.nio.file.Files;
import java.nio.file.Path;
import java.util.ArrayList;
import java.util.List;
import java.util.regex.Matcher;
import java.util.regex.Pattern;

/** Rules of LANGUAGE.md that can be seen from the program's text or its compiled classes. */
public final class LanguageTest {
    private static final Checks checks = new Checks("LanguageTest");
    private static final int MOST_LINES = 60;
    private static final int MOST_CLASSES = 12;
    private static final int MOST_FIELDS = 20;
    private static final int MOST_PARAMETERS = 7;

    public static void main(String[] args) throws IOException {
        Path program = Path.of(System.getProperty("program", "src/main/java/TaxWorkbench.java"));
        List<String> lines = Files.readAllLines(program);
        signs(lines);
        imports(lines);
        words(code(lines));
        library(code(lines));
        lengths(lines);
        classes();
        checks.end();
    }

    /** The program's text without comments, with empty strings and characters. */
    private static String code(List<String> lines) {
        return String.join("\n", lines)
                .replaceAll("(?s)/\\*.*?\\*/", "")
                .replaceAll("//[^\n]*", "")
                .replaceAll("\"[^\"\n]*\"", "\"\"")
                .replaceAll("'[^'\n]'", "' '");
    }

    private static void signs(List<String> lines) {
        for (int i = 0; i < lines.size(); i++) {
            for (char sign : lines.get(i).toCharArray()) {
                if (sign < 32 || sign > 126) {
                    checks.same("sign in line " + (i + 1), (int) sign, "32 to 126");
                }
            }
        }
    }

    private static void imports(List<String> lines) {
        for (String line : lines) {
            if (line.startsWith("import") || line.startsWith("package")) {
                checks.same("import", line, "import java.util.NoSuchElementException;");
            }
        }
    }

    private static void words(String code) {
        String[] forbidden = {"->", "::", "\\bfinally\\b", "\\bsynchronized\\b", "\\bassert\\b",
            "\\btry\\b", "\\bcatch\\b", "\\bvar\\b", "\\bstatic\\s*\\{", "Exact\\b", "\"\"\\s*\\+",
            "\\+\\s*\"\"", "\\bObject\\b", "\\bequals\\b", "\\bhashCode\\b", "\\btoString\\b",
            "\\bNaN\\b", "\\bthis\\b", "@"};
        for (String word : forbidden) {
            checks.same("the program holds " + word, Pattern.compile(word).matcher(code).find(), false);
        }
    }

    private static void library(String code) {
        Matcher uses = Pattern.compile("\\b(Math|System|Integer|Long|Arrays)\\.(\\w+)").matcher(code);
        List<String> allowed = List.of("Math.max", "Math.min", "System.arraycopy");
        while (uses.find()) {
            checks.same(uses.group() + " is allowed", allowed.contains(uses.group()), true);
        }
        Matcher made = Pattern.compile("\\bnew (\\w+)\\(").matcher(code);
        while (made.find()) {
            String name = made.group(1);
            boolean own = Pattern.compile("class " + name + " ").matcher(code).find();
            checks.same("new " + name, own || name.endsWith("Exception"), true);
        }
    }

    private static void lengths(List<String> lines) {
        Pattern head = Pattern.compile("^( {4}| {8})\\w[\\w\\[\\] ]*\\(.*");
        for (int i = 0; i < lines.size(); i++) {
            Matcher matcher = head.matcher(lines.get(i));
            if (matcher.matches() && !lines.get(i).endsWith(";")) {
                String end = matcher.group(1) + "}";
                int last = i;
                while (last < lines.size() && !lines.get(last).equals(end)) {
                    last++;
                }
                checks.same("lines of the method at " + (i + 1), last - i < MOST_LINES, true);
            }
        }
    }

    private static void classes() {
        List<Class<?>> all = new ArrayList<>(List.of(TaxWorkbench.class.getDeclaredClasses()));
        all.add(TaxWorkbench.class);
        checks.same("classes are few", all.size() <= MOST_CLASSES, true);
        for (Class<?> one : all) {
            int fields = 0;
            for (Field field : one.getDeclaredFields()) {
                if (Modifier.isStatic(field.getModifiers())) {
                    checks.same(field.getName() + " is final", Modifier.isFinal(field.getModifiers()), true);
                } else {
                    fields++;
                }
            }
            checks.same("fields of " + one.getSimpleName(), fields <= MOST_FIELDS, true);
            for (Method method : one.getDeclaredMethods()) {
                checks.same("parameters of " + method.getName(),
                        method.getParameterCount() <= MOST_PARAMETERS, true);
            }
        }
    }
}
