import java.lang.reflect.Constructor;
import java.lang.reflect.Field;
import java.lang.reflect.Method;
import java.lang.reflect.Modifier;
import java.util.Arrays;
import java.util.Set;
import java.util.TreeSet;

/** The public face: what the document lists, with its throws clauses, and nothing more. */
public final class FaceTest {
    private static final String INDEX = " IndexOutOfBoundsException";
    private static final String ARGUMENT = " IllegalArgumentException";
    private static final String STATE = " IllegalStateException";

    private static final String[] METHODS = {
        "int build(int, int, int)" + INDEX + ARGUMENT + STATE,
        "int speed(int, int)" + INDEX + ARGUMENT,
        "int run(int)" + INDEX + STATE,
        "int halt(int)" + INDEX + STATE,
        "int close(int)" + INDEX + STATE,
        "int open(int)" + INDEX + STATE,
        "int load(int, int)" + INDEX + ARGUMENT,
        "int feeder(int, int)" + INDEX + ARGUMENT,
        "int pass(int)" + ARGUMENT,
        "int set(int, int)" + INDEX + ARGUMENT,
        "int append(int)" + ARGUMENT + STATE,
        "int clearBuffer()",
        "int firstError()",
        "int obey()" + ARGUMENT,
        "int keep()",
        "int goBack()" + STATE,
        "int undo()" + STATE,
        "int diesel(int, int)" + INDEX + ARGUMENT,
        "int line(int, int)" + INDEX + ARGUMENT,
        "int count(int)" + ARGUMENT,
        "int setting(int)" + INDEX,
        "int ifSpeed(int, int, int)" + INDEX + ARGUMENT,
        "int closeIn(int)" + INDEX,
        "int fairSpeed(int)" + INDEX,
        "int nextTrip()",
        "double loadShare()",
        "float meanPower()",
        "long digest()",
    };

    public static void main(String[] args) {
        Check.due("the class", Modifier.toString(DroopBoard.class.getModifiers()), "public final");
        Check.due("the methods", methods(), new TreeSet<>(Arrays.asList(METHODS)));
        Set<String> fields = new TreeSet<>();
        for (Field field : DroopBoard.class.getDeclaredFields()) {
            if (!Modifier.isPrivate(field.getModifiers())) {
                fields.add(Modifier.toString(field.getModifiers()) + " " + field.getName());
            }
        }
        Check.due("the constants", fields, Set.of("public static final NONE"));
        Constructor<?>[] constructors = DroopBoard.class.getDeclaredConstructors();
        Check.due("the constructors", constructors.length, 1);
        Check.due("the constructor", constructors[0].toString(), "public DroopBoard()");
        privateNames();
        Check.end("FaceTest");
    }

    private static Set<String> methods() {
        Set<String> methods = new TreeSet<>();
        for (Method method : DroopBoard.class.getDeclaredMethods()) {
            if (Modifier.isPrivate(method.getModifiers())) {
                continue;
            }
            StringBuilder text = new StringBuilder(method.getReturnType() + " " + method.getName() + "(");
            for (Class<?> type : method.getParameterTypes()) {
                text.append(text.charAt(text.length() - 1) == '(' ? "" : ", ").append(type);
            }
            text.append(")");
            for (Class<?> type : method.getExceptionTypes()) {
                text.append(" ").append(type.getSimpleName());
            }
            methods.add(text.toString());
        }
        return methods;
    }

    /** No private method, in the class or in one inside it, bears the name of a public one. */
    private static void privateNames() {
        Set<String> faces = new TreeSet<>();
        for (String method : METHODS) {
            faces.add(method.substring(method.indexOf(' ') + 1, method.indexOf('(')));
        }
        for (Method method : DroopBoard.class.getDeclaredMethods()) {
            boolean twice = Modifier.isPrivate(method.getModifiers()) && faces.contains(method.getName());
            Check.due("a private " + method.getName(), twice ? 1 : 0, 0);
        }
        for (Class<?> inside : DroopBoard.class.getDeclaredClasses()) {
            for (Method method : inside.getDeclaredMethods()) {
                boolean twice = Modifier.isPrivate(method.getModifiers()) && faces.contains(method.getName());
                Check.due("an inner private " + method.getName(), twice ? 1 : 0, 0);
            }
        }
    }
}
