import java.io.IOException;
import java.lang.reflect.Constructor;
import java.lang.reflect.Field;
import java.lang.reflect.Method;
import java.lang.reflect.Modifier;
import java.lang.reflect.Parameter;
import java.nio.file.Files;
import java.nio.file.Path;
import java.util.ArrayList;
import java.util.Collections;
import java.util.HashSet;
import java.util.List;
import java.util.Set;

/** The class has the face that the document writes, and nothing else that can be seen. */
public final class FaceTest {
    private static final Checks checks = new Checks("FaceTest");

    public static void main(String[] args) throws IOException {
        checks.same("the class is public and final",
                TaxWorkbench.class.getModifiers(), Modifier.PUBLIC | Modifier.FINAL);
        List<String> due = documented(Path.of(System.getProperty("shared", "../shared"), "DOC.md"));
        checks.same("the document's members", due.size(), 42);
        checks.same("the face", String.join("\n", found()), String.join("\n", due));
        othersArePrivate();
        checks.end();
    }

    private static List<String> documented(Path document) throws IOException {
        List<String> members = new ArrayList<>();
        boolean inside = false;
        for (String line : Files.readAllLines(document)) {
            if (line.startsWith("```")) {
                inside = line.equals("```java");
            } else if (inside && line.startsWith("    public ")) {
                String told = line.trim().replace(";", "").replaceAll("(int) \\w+([,)])", "$1$2");
                members.add(told);
            }
        }
        Collections.sort(members);
        return members;
    }

    private static List<String> found() {
        List<String> members = new ArrayList<>();
        for (Constructor<?> made : TaxWorkbench.class.getDeclaredConstructors()) {
            members.add("public TaxWorkbench(" + types(made.getParameters()) + ")"
                    + thrown(made.getExceptionTypes()));
        }
        for (Method method : TaxWorkbench.class.getDeclaredMethods()) {
            if (!Modifier.isPrivate(method.getModifiers())) {
                members.add(Modifier.toString(method.getModifiers()) + " "
                        + method.getReturnType().getSimpleName() + " " + method.getName()
                        + "(" + types(method.getParameters()) + ")" + thrown(method.getExceptionTypes()));
            }
        }
        Collections.sort(members);
        return members;
    }

    private static String types(Parameter[] parameters) {
        List<String> names = new ArrayList<>();
        for (Parameter parameter : parameters) {
            names.add(parameter.getType().getSimpleName());
        }
        return String.join(", ", names);
    }

    private static String thrown(Class<?>[] exceptions) {
        List<String> names = new ArrayList<>();
        for (Class<?> exception : exceptions) {
            names.add(exception.getSimpleName());
        }
        return names.isEmpty() ? "" : " throws " + String.join(", ", names);
    }

    private static void othersArePrivate() {
        Set<String> open = new HashSet<>();
        for (Method method : TaxWorkbench.class.getDeclaredMethods()) {
            if (!Modifier.isPrivate(method.getModifiers())) {
                open.add(method.getName());
            }
        }
        for (Method method : TaxWorkbench.class.getDeclaredMethods()) {
            if (Modifier.isPrivate(method.getModifiers())) {
                checks.same("private " + method.getName() + " has a public one's name",
                        open.contains(method.getName()), false);
            }
        }
        for (Field field : TaxWorkbench.class.getDeclaredFields()) {
            checks.same("field " + field.getName() + " is private",
                    Modifier.isPrivate(field.getModifiers()), true);
        }
        for (Class<?> inside : TaxWorkbench.class.getDeclaredClasses()) {
            int modifiers = inside.getModifiers();
            checks.same("class " + inside.getSimpleName() + " is static and not open",
                    Modifier.isStatic(modifiers) && !Modifier.isPublic(modifiers)
                            && !Modifier.isProtected(modifiers), true);
        }
    }
}
