import java.lang.reflect.Constructor;
import java.lang.reflect.Field;
import java.lang.reflect.Method;
import java.lang.reflect.Modifier;
import java.util.HashSet;
import java.util.Set;
import java.util.TreeSet;

/** The public face is the document's, and nothing else of the class can be seen from outside. */
public final class FaceTest {
    private static final String ARGUMENT = " throws IllegalArgumentException";
    private static final String INDEX = " throws IndexOutOfBoundsException";
    private static final String STATE = " IllegalStateException";
    private static final String THEN_ARGUMENT = " IllegalArgumentException";

    private static final String[] METHODS = {
        "int define int int int boolean boolean int" + ARGUMENT + STATE,
        "int models",
        "int check int" + INDEX,
        "int multiply int int int" + INDEX + THEN_ARGUMENT,
        "int power int long" + INDEX + THEN_ARGUMENT,
        "int period int int" + INDEX + THEN_ARGUMENT,
        "int append int int" + INDEX + THEN_ARGUMENT + STATE,
        "int appendSeries int int int int" + INDEX + THEN_ARGUMENT + STATE,
        "int appendRow int int" + INDEX + STATE,
        "int setByte int int int" + INDEX + THEN_ARGUMENT,
        "int truncate int int" + INDEX + THEN_ARGUMENT,
        "int length int" + INDEX,
        "int byteAt int int" + INDEX,
        "int sum int int" + INDEX,
        "int sumOfPart int int int int" + INDEX,
        "int remainder int int" + INDEX,
        "int joined int int int int" + INDEX + THEN_ARGUMENT,
        "int patched int int int int" + INDEX + THEN_ARGUMENT,
        "int wrongBit int int int" + INDEX + THEN_ARGUMENT,
        "int fletcher int" + INDEX,
        "int fletcherJoined int int int" + ARGUMENT,
        "int adler int" + INDEX,
        "int adlerJoined int int int" + ARGUMENT,
        "int adlerRolled int int int int" + ARGUMENT,
    };

    public static void main(String[] args) {
        Due due = new Due();
        constantAndConstructor(due);
        methods(due);
        fieldsAndClasses(due);
        due.finish();
    }

    private static void constantAndConstructor(Due due) {
        due.answer("NONE", ChecksumLab.NONE, -1);
        due.answer("the class's modifiers", ChecksumLab.class.getModifiers(), Modifier.PUBLIC | Modifier.FINAL);
        Constructor<?>[] made = ChecksumLab.class.getDeclaredConstructors();
        due.answer("number of constructors", made.length, 1);
        due.answer("the constructor's modifiers", made[0].getModifiers(), Modifier.PUBLIC);
        due.answer("the constructor's parameters", made[0].getParameterCount(), 0);
    }

    private static void methods(Due due) {
        Set<String> seen = new TreeSet<>();
        Set<String> publicNames = new HashSet<>();
        Set<String> otherNames = new HashSet<>();
        for (Method method : ChecksumLab.class.getDeclaredMethods()) {
            if (method.getModifiers() == Modifier.PUBLIC) {
                seen.add(signature(method));
                publicNames.add(method.getName());
            } else if (!method.isSynthetic()) {
                otherNames.add(method.getName());
                due.answer(method + " is private", method.getModifiers() & Modifier.PRIVATE, Modifier.PRIVATE);
            }
        }
        for (String wanted : METHODS) {
            due.answer("there is: " + wanted, seen.remove(wanted) ? 1 : 0, 1);
        }
        due.answer("public methods beside the face: " + seen, seen.size(), 0);
        otherNames.retainAll(publicNames);
        due.answer("private methods with a public name: " + otherNames, otherNames.size(), 0);
    }

    private static void fieldsAndClasses(Due due) {
        for (Field field : ChecksumLab.class.getDeclaredFields()) {
            int modifiers = field.getModifiers();
            boolean isNone = field.getName().equals("NONE")
                    && modifiers == (Modifier.PUBLIC | Modifier.STATIC | Modifier.FINAL);
            due.answer(field + " is NONE or private", isNone || Modifier.isPrivate(modifiers) ? 1 : 0, 1);
            due.answer(field + " is final if static",
                    Modifier.isStatic(modifiers) && !Modifier.isFinal(modifiers) ? 0 : 1, 1);
        }
        due.answer("public classes inside", ChecksumLab.class.getClasses().length, 0);
    }

    private static String signature(Method method) {
        StringBuilder text = new StringBuilder(method.getReturnType().getName());
        text.append(' ').append(method.getName());
        for (Class<?> parameter : method.getParameterTypes()) {
            text.append(' ').append(parameter.getName());
        }
        String before = " throws ";
        for (Class<?> thrown : method.getExceptionTypes()) {
            text.append(before).append(thrown.getSimpleName());
            before = " ";
        }
        return text.toString();
    }
}
