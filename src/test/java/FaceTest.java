import java.io.IOException;
import java.lang.reflect.Constructor;
import java.lang.reflect.Method;
import java.lang.reflect.Modifier;
import java.nio.file.Files;
import java.nio.file.Path;
import java.util.Arrays;
import java.util.Set;
import java.util.TreeSet;
import java.util.regex.Matcher;
import java.util.regex.Pattern;

/** "The public face": the members that the document declares, declared so, and no other that is not private. */
public final class FaceTest {
    private static final Pattern DECLARED = Pattern.compile("public (\\w+) (\\w+)\\((.*)\\)(?: throws (.*))?;");

    public static void main(String[] args) throws IOException {
        Check check = new Check("FaceTest");
        Path root = Path.of(args.length > 0 ? args[0] : ".");
        Class<?> made = HeatStadium.class;
        Set<String> face = declaredIn(root.resolve("../shared/DOC.md"));
        check.due("methods that the document declares", face.size(), 31);
        check.due("methods", publicMethods(made), face);
        check.due("public and final", Modifier.isPublic(made.getModifiers())
                && Modifier.isFinal(made.getModifiers()), true);
        check.due("members that are neither the face nor private", othersOpen(made), new TreeSet<String>());
        check.due("private methods with a public name", privateNamedAsPublic(made), new TreeSet<String>());
        check.due("classes", made.getDeclaredClasses().length <= 12, true);
        check.finish();
    }

    /** The methods of the section "The public face", told as told(method) tells those of the class. */
    private static Set<String> declaredIn(Path document) throws IOException {
        Set<String> found = new TreeSet<>();
        for (String line : Files.readAllLines(document)) {
            Matcher declared = DECLARED.matcher(line.strip());
            if (declared.matches()) {
                String types = declared.group(3).replaceAll(" \\w+(, |$)", "$1").replace(", ", ",");
                String thrown = declared.group(4) == null ? "" : " " + declared.group(4).replace(",", "");
                found.add(declared.group(1) + " " + declared.group(2) + "(" + types + ")" + thrown);
            }
        }
        return found;
    }

    private static Set<String> publicMethods(Class<?> made) {
        Set<String> found = new TreeSet<>();
        for (Method method : made.getDeclaredMethods()) {
            if (Modifier.isPublic(method.getModifiers())) {
                found.add(told(method));
            }
        }
        return found;
    }

    private static String told(Method method) {
        StringBuilder text = new StringBuilder(method.getReturnType().getName() + " " + method.getName() + "(");
        for (int i = 0; i < method.getParameterTypes().length; i++) {
            text.append(i == 0 ? "" : ",").append(method.getParameterTypes()[i].getName());
        }
        text.append(")");
        for (Class<?> thrown : method.getExceptionTypes()) {
            text.append(" ").append(thrown.getSimpleName());
        }
        return text.toString();
    }

    private static Set<String> othersOpen(Class<?> made) {
        Set<String> found = new TreeSet<>();
        for (Constructor<?> constructor : made.getDeclaredConstructors()) {
            if (constructor.getParameterCount() != 0 || !Modifier.isPublic(constructor.getModifiers())) {
                found.add(constructor.toString());
            }
        }
        for (Method method : made.getDeclaredMethods()) {
            if (!Modifier.isPublic(method.getModifiers()) && !Modifier.isPrivate(method.getModifiers())) {
                found.add(method.toString());
            }
        }
        Arrays.stream(made.getDeclaredFields()).filter(field -> !Modifier.isPrivate(field.getModifiers()))
                .forEach(field -> found.add(field.toString()));
        return found;
    }

    private static Set<String> privateNamedAsPublic(Class<?> made) {
        Set<String> open = new TreeSet<>();
        for (Method method : made.getMethods()) {
            open.add(method.getName());
        }
        Set<String> found = new TreeSet<>();
        for (Class<?> inside : made.getDeclaredClasses()) {
            addClashes(inside, open, found);
        }
        addClashes(made, open, found);
        return found;
    }

    private static void addClashes(Class<?> looked, Set<String> open, Set<String> found) {
        for (Method method : looked.getDeclaredMethods()) {
            if (!Modifier.isPublic(method.getModifiers()) && open.contains(method.getName())) {
                found.add(looked.getSimpleName() + "." + method.getName());
            }
        }
    }
}
