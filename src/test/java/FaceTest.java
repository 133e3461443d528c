import java.lang.reflect.Constructor;
import java.lang.reflect.Field;
import java.lang.reflect.Method;
import java.lang.reflect.Modifier;
import java.util.ArrayList;
import java.util.Arrays;
import java.util.HashSet;
import java.util.List;
import java.util.Set;
import java.util.TreeSet;

/** The public face: each member of the document with its exceptions, and no other. */
public final class FaceTest {
    private static final String[] FACE = {
        "int net(boolean) throws UnsupportedOperationException",
        "int pin(int, int, int) throws UnsupportedOperationException",
        "int wall(int, int, int) throws UnsupportedOperationException",
        "int tearDown(int, int, int) throws UnsupportedOperationException",
        "int route(int) throws UnsupportedOperationException",
        "int hard(int) throws UnsupportedOperationException",
        "int rip(int) throws UnsupportedOperationException",
        "int netOf(int, int) throws IndexOutOfBoundsException, IllegalArgumentException",
        "int pinOf(int, int) throws IndexOutOfBoundsException",
        "int at(int, int, int) throws IndexOutOfBoundsException",
        "boolean isHole(int, int) throws IndexOutOfBoundsException",
        "int price(int, int, int, int) throws IndexOutOfBoundsException",
        "int wouldCost(int) throws IndexOutOfBoundsException, NoSuchElementException",
        "int wouldRip(int) throws IndexOutOfBoundsException, NoSuchElementException",
        "int reach(int, int) throws IndexOutOfBoundsException",
        "int cellsOf(int) throws IndexOutOfBoundsException",
        "int cellsAgain(int) throws IndexOutOfBoundsException",
        "int holes()",
        "int holesAgain()",
        "int touches(int) throws IndexOutOfBoundsException",
        "int ranked(int) throws NoSuchElementException",
        "int append(char) throws IllegalStateException",
        "int commands() throws IllegalArgumentException, UnsupportedOperationException",
        "int faultPosition()",
        "int reason(int) throws IllegalArgumentException, NoSuchElementException",
        "int line(int, int) throws IndexOutOfBoundsException",
        "char character(int) throws IndexOutOfBoundsException",
        "float meanCost() throws ArithmeticException",
        "double filledShare()",
        "int account(int) throws IllegalArgumentException",
        "int undo() throws IllegalStateException",
        "int save()",
        "int restore() throws IllegalStateException",
    };

    public static void main(String[] args) {
        int modifiers = WireBoard.class.getModifiers();
        Script.check("public and final", Modifier.isPublic(modifiers) && Modifier.isFinal(modifiers));
        Script.check("no class above it", WireBoard.class.getSuperclass() == Object.class
                && WireBoard.class.getInterfaces().length == 0 && WireBoard.class.getPackageName().isEmpty());
        methods();
        fieldsAndConstructors();
        for (Class<?> inside : WireBoard.class.getDeclaredClasses()) {
            int m = inside.getModifiers();
            Script.check(inside + " is static and not public", Modifier.isStatic(m) && !Modifier.isPublic(m)
                    && !Modifier.isProtected(m));
            Script.check(inside + " has some twenty fields", countFields(inside) <= 20);
        }
        Script.check("some twelve classes", WireBoard.class.getDeclaredClasses().length <= 12);
        Script.finish();
    }

    private static void methods() {
        Set<String> open = new TreeSet<>();
        Set<String> openNames = new HashSet<>();
        Set<String> hiddenNames = new HashSet<>();
        for (Method method : WireBoard.class.getDeclaredMethods()) {
            if (Modifier.isPrivate(method.getModifiers())) {
                hiddenNames.add(method.getName());
            } else {
                Script.check(method + " is public and not static", Modifier.isPublic(method.getModifiers())
                        && !Modifier.isStatic(method.getModifiers()));
                open.add(told(method));
                openNames.add(method.getName());
            }
        }
        Set<String> due = new TreeSet<>(Arrays.asList(FACE));
        if (!open.equals(due)) {
            System.out.println("the face is " + open);
        }
        Script.check("the methods of the face", open.equals(due));
        hiddenNames.retainAll(openNames);
        Script.check("no private method has a public name " + hiddenNames, hiddenNames.isEmpty());
    }

    private static void fieldsAndConstructors() {
        for (Field field : WireBoard.class.getDeclaredFields()) {
            Script.check(field + " is private", Modifier.isPrivate(field.getModifiers()));
            Script.check(field + " is final if it is static", !Modifier.isStatic(field.getModifiers())
                    || Modifier.isFinal(field.getModifiers()));
        }
        Constructor<?>[] all = WireBoard.class.getDeclaredConstructors();
        Script.check("one constructor", all.length == 1 && Modifier.isPublic(all[0].getModifiers())
                && all[0].getParameterCount() == 0 && all[0].getExceptionTypes().length == 0);
    }

    private static long countFields(Class<?> inside) {
        return Arrays.stream(inside.getDeclaredFields()).filter(f -> !Modifier.isStatic(f.getModifiers())).count();
    }

    private static String told(Method method) {
        List<String> types = new ArrayList<>();
        for (Class<?> type : method.getParameterTypes()) {
            types.add(type.getSimpleName());
        }
        List<String> thrown = new ArrayList<>();
        for (Class<?> type : method.getExceptionTypes()) {
            thrown.add(type.getSimpleName());
        }
        return method.getReturnType().getSimpleName() + " " + method.getName() + "(" + String.join(", ", types) + ")"
                + (thrown.isEmpty() ? "" : " throws " + String.join(", ", thrown));
    }
}
