import java.lang.reflect.Constructor;
import java.lang.reflect.Method;
import java.lang.reflect.Modifier;
import java.util.Arrays;
import java.util.Set;
import java.util.TreeSet;

/** The public face: these members, declared so, and no other that is not private. */
public final class FaceTest {
    private static final String[] FACE = {
        "int athlete(int) IllegalArgumentException IllegalStateException",
        "int event(char,int,int,int) IllegalArgumentException IllegalStateException",
        "int enter(int,int,int) IndexOutOfBoundsException IllegalArgumentException IllegalStateException",
        "boolean withdraw(int,int,boolean) IndexOutOfBoundsException NoSuchElementException IllegalStateException",
        "int field(int) IndexOutOfBoundsException",
        "int inField(int,int) IndexOutOfBoundsException NoSuchElementException",
        "int pass(int) IllegalArgumentException",
        "int heatOf(int,int) IndexOutOfBoundsException UnsupportedOperationException NoSuchElementException",
        "int laneOf(int,int,int) IndexOutOfBoundsException IllegalArgumentException"
            + " UnsupportedOperationException NoSuchElementException",
        "int time(int,int,int,int,boolean,int) IndexOutOfBoundsException IllegalArgumentException"
            + " UnsupportedOperationException IllegalStateException",
        "boolean react(int,int,int,int) IndexOutOfBoundsException IllegalArgumentException"
            + " UnsupportedOperationException IllegalStateException",
        "boolean putOut(int,int,int) IndexOutOfBoundsException IllegalArgumentException"
            + " UnsupportedOperationException IllegalStateException",
        "boolean isOut(int,int,int) IndexOutOfBoundsException IllegalArgumentException"
            + " UnsupportedOperationException",
        "int inFinal(int,int) IndexOutOfBoundsException UnsupportedOperationException NoSuchElementException",
        "int bar(int,int) IndexOutOfBoundsException IllegalArgumentException"
            + " UnsupportedOperationException IllegalStateException",
        "int jump(int,int,char) IndexOutOfBoundsException IllegalArgumentException"
            + " UnsupportedOperationException IllegalStateException",
        "int put(int,int,int) IndexOutOfBoundsException IllegalArgumentException"
            + " UnsupportedOperationException IllegalStateException",
        "int rankOf(int,int) IndexOutOfBoundsException NoSuchElementException",
        "int resultOf(int,int) IndexOutOfBoundsException NoSuchElementException",
        "int protest(int,int,int) IndexOutOfBoundsException IllegalArgumentException"
            + " UnsupportedOperationException IllegalStateException",
        "long decide(int,boolean) IndexOutOfBoundsException IllegalStateException",
        "boolean dope(int,boolean) IndexOutOfBoundsException",
        "boolean close(int,boolean) IndexOutOfBoundsException",
        "int record(int) IndexOutOfBoundsException NoSuchElementException",
        "int holder(int) IndexOutOfBoundsException NoSuchElementException",
        "int sharers(int) IndexOutOfBoundsException",
        "int medals(int,int) IllegalArgumentException",
        "int inTable(int,boolean) IllegalArgumentException",
        "double points(int) IllegalArgumentException",
        "int shareBits(int) IllegalArgumentException ArithmeticException",
        "boolean isTrue()",
    };

    public static void main(String[] args) {
        Check check = new Check("FaceTest");
        Class<?> made = HeatStadium.class;
        check.due("public and final", Modifier.isPublic(made.getModifiers())
                && Modifier.isFinal(made.getModifiers()), true);
        check.due("methods", publicMethods(made), new TreeSet<>(Arrays.asList(FACE)));
        check.due("members that are neither the face nor private", othersOpen(made), new TreeSet<String>());
        check.due("private methods with a public name", privateNamedAsPublic(made), new TreeSet<String>());
        check.due("classes", made.getDeclaredClasses().length <= 12, true);
        check.finish();
    }

    private static Set<String> publicMethods(Class<?> made) {
        Set<String> found = new TreeSet<>();
        for (Method method : made.getDeclaredMethods()) {
            if (Modifier.isPublic(method.getModifiers())) {
                found.add(told(method));
            }
        }
        return found;
    }

    private static String told(Method method) {
        StringBuilder text = new StringBuilder(method.getReturnType().getName() + " " + method.getName() + "(");
        for (int i = 0; i < method.getParameterTypes().length; i++) {
            text.append(i == 0 ? "" : ",").append(method.getParameterTypes()[i].getName());
        }
        text.append(")");
        for (Class<?> thrown : method.getExceptionTypes()) {
            text.append(" ").append(thrown.getSimpleName());
        }
        return text.toString();
    }

    private static Set<String> othersOpen(Class<?> made) {
        Set<String> found = new TreeSet<>();
        for (Constructor<?> constructor : made.getDeclaredConstructors()) {
            if (constructor.getParameterCount() != 0 || !Modifier.isPublic(constructor.getModifiers())) {
                found.add(constructor.toString());
            }
        }
        for (Method method : made.getDeclaredMethods()) {
            if (!Modifier.isPublic(method.getModifiers()) && !Modifier.isPrivate(method.getModifiers())) {
                found.add(method.toString());
            }
        }
        Arrays.stream(made.getDeclaredFields()).filter(field -> !Modifier.isPrivate(field.getModifiers()))
                .forEach(field -> found.add(field.toString()));
        return found;
    }

    private static Set<String> privateNamedAsPublic(Class<?> made) {
        Set<String> open = new TreeSet<>();
        for (Method method : made.getMethods()) {
            open.add(method.getName());
        }
        Set<String> found = new TreeSet<>();
        for (Class<?> inside : made.getDeclaredClasses()) {
            addClashes(inside, open, found);
        }
        addClashes(made, open, found);
        return found;
    }

    private static void addClashes(Class<?> looked, Set<String> open, Set<String> found) {
        for (Method method : looked.getDeclaredMethods()) {
            if (!Modifier.isPublic(method.getModifiers()) && open.contains(method.getName())) {
                found.add(looked.getSimpleName() + "." + method.getName());
            }
        }
    }
}
