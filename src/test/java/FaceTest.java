import java.lang.reflect.Constructor;
import java.lang.reflect.Field;
import java.lang.reflect.Method;
import java.lang.reflect.Modifier;
import java.util.Set;
import java.util.TreeSet;

/** The class has the document's face, and nothing else can be seen of it. */
final class FaceTest {
    private static final String ARGUMENT = "java.lang.IllegalArgumentException";
    private static final String INDEX = "java.lang.IndexOutOfBoundsException";
    private static final String STATE = "java.lang.IllegalStateException";

    public static void main(String[] args) {
        Checks checks = new Checks();
        Class<?> type = WindowMachine.class;
        checks.due("public final", type.getModifiers(), Modifier.PUBLIC | Modifier.FINAL);

        Set<String> want = new TreeSet<>(Set.of(
            "letters(long) " + ARGUMENT + " " + INDEX,
            "assemble(int) " + ARGUMENT + " " + INDEX,
            "place()",
            "put(int,int) " + INDEX,
            "word(int) " + INDEX,
            "run(int) " + ARGUMENT + " " + STATE,
            "start(int) " + ARGUMENT,
            "set(int,int,int) " + ARGUMENT,
            "register(int,int) " + ARGUMENT,
            "state(int) " + ARGUMENT,
            "mode(int,int,int,int,int) " + ARGUMENT));
        Set<String> got = new TreeSet<>();
        Set<String> privateNames = new TreeSet<>();
        for (Method method : type.getDeclaredMethods()) {
            if (Modifier.isPrivate(method.getModifiers())) {
                privateNames.add(method.getName());
            } else {
                got.add(textOf(method));
                checks.due(method + " answers int", method.getReturnType() == int.class ? 1 : 0, 1);
                checks.due(method + " is public", method.getModifiers(), Modifier.PUBLIC);
            }
        }
        checks.due("methods " + got + ", due " + want, got.equals(want) ? 1 : 0, 1);
        for (String name : privateNames) {
            checks.due("private name " + name, want.stream().anyMatch(w -> w.startsWith(name + "(")) ? 1 : 0, 0);
        }

        for (Field field : type.getDeclaredFields()) {
            checks.due(field + " is private", Modifier.isPrivate(field.getModifiers()) ? 1 : 0, 1);
        }
        Constructor<?>[] constructors = type.getDeclaredConstructors();
        checks.due("constructors", constructors.length, 1);
        checks.due("constructor's parameters", constructors[0].getParameterCount(), 0);
        checks.due("constructor is public", constructors[0].getModifiers(), Modifier.PUBLIC);
        checks.end();
    }

    private static String textOf(Method method) {
        StringBuilder text = new StringBuilder(method.getName()).append('(');
        for (Class<?> parameter : method.getParameterTypes()) {
            text.append(text.charAt(text.length() - 1) == '(' ? "" : ",").append(parameter.getName());
        }
        text.append(')');
        for (Class<?> exception : method.getExceptionTypes()) {
            text.append(' ').append(exception.getName());
        }
        return text.toString();
    }
}
