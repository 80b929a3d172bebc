import java.lang.reflect.Constructor;
import java.lang.reflect.Field;
import java.lang.reflect.Member;
import java.lang.reflect.Method;
import java.lang.reflect.Modifier;
import java.util.Arrays;
import java.util.List;
import java.util.TreeSet;

/** The public face: just the members that the document lists, and nothing else to be seen. */
final class FaceTest {
    private static final Due due = new Due("FaceTest");
    private static final List<String> METHODS = List.of(
            "void init()", "boolean setPsk(int,int)", "void open()", "boolean put(int)",
            "int send(int)", "int deliver(int,int)", "int got(int)", "int gotLen()",
            "boolean corrupt(int,int,int)", "boolean drop(int)", "int rekey(int)",
            "int wireAt(int,int)", "int count(int)");

    public static void main(String[] args) throws ReflectiveOperationException {
        Class<?> type = RecordWire.class;
        due.is("modifiers", type.getModifiers(), Modifier.PUBLIC | Modifier.FINAL);
        due.is("NONE", RecordWire.NONE, -1);
        methods(type);
        constructors(type);
        fields(type);
        for (Class<?> inside : type.getDeclaredClasses()) {
            inside(inside);
        }
        due.end();
    }

    private static void methods(Class<?> type) {
        TreeSet<String> visible = new TreeSet<>();
        for (Method method : type.getDeclaredMethods()) {
            if (isPrivate(method)) {
                due.is("a private " + method.getName(), isFaceName(method.getName()), false);
            } else {
                due.is(method + " is public and plain", method.getModifiers(), Modifier.PUBLIC);
                visible.add(text(method));
            }
        }
        due.is("methods " + visible, visible.equals(new TreeSet<>(METHODS)), true);
    }

    private static void constructors(Class<?> type) {
        Constructor<?>[] all = type.getDeclaredConstructors();
        due.is("constructors", all.length, 1);
        due.is("parameters of the constructor", all[0].getParameterCount(), 0);
        due.is("the constructor's modifiers", all[0].getModifiers(), Modifier.PUBLIC);
    }

    private static void fields(Class<?> type) {
        for (Field field : type.getDeclaredFields()) {
            if (!field.getName().equals("NONE")) {
                due.is(field + " is private", isPrivate(field), true);
            }
            if (Modifier.isStatic(field.getModifiers())) {
                due.is(field + " is final", Modifier.isFinal(field.getModifiers()), true);
            }
        }
    }

    private static void inside(Class<?> inside) {
        due.is(inside + " is static", Modifier.isStatic(inside.getModifiers()), true);
        due.is(inside + " is hidden",
                Modifier.isPublic(inside.getModifiers()) || Modifier.isProtected(inside.getModifiers()),
                false);
        for (Method method : inside.getDeclaredMethods()) {
            if (isPrivate(method)) {
                due.is(method + " has a name of its own", isFaceName(method.getName()), false);
            }
        }
    }

    private static boolean isPrivate(Member member) {
        return Modifier.isPrivate(member.getModifiers());
    }

    private static boolean isFaceName(String name) {
        return METHODS.stream().anyMatch(method -> method.contains(" " + name + "("));
    }

    private static String text(Method method) {
        String parameters = Arrays.stream(method.getParameterTypes())
                .map(Class::getName).reduce((a, b) -> a + "," + b).orElse("");
        return method.getReturnType().getName() + " " + method.getName() + "(" + parameters + ")";
    }
}
