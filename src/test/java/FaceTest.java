import java.lang.reflect.Constructor;
import java.lang.reflect.Field;
import java.lang.reflect.Method;
import java.lang.reflect.Modifier;
import java.util.Arrays;
import java.util.Set;
import java.util.TreeSet;

/** The public face: just the document's constants, constructor and methods, with their exceptions. */
public final class FaceTest {
    private static final String INDEX = "IndexOutOfBoundsException";
    private static final String ARGUMENT = "IllegalArgumentException";
    private static final String STATE = "IllegalStateException";

    private static final String[] METHODS = {
        "int setProduct int int int int " + ARGUMENT,
        "int pass int " + ARGUMENT + " " + STATE,
        "int open int " + ARGUMENT + " " + STATE,
        "int add int int int " + INDEX + " " + ARGUMENT + " " + STATE,
        "int pay int " + INDEX + " " + STATE,
        "int sales",
        "int paid int " + INDEX,
        "int kept int int " + INDEX,
        "int keptValue int " + INDEX,
        "int lineValue int int " + INDEX,
        "int giveBack int int int int " + INDEX + " " + ARGUMENT + " " + STATE,
        "int exchange int int int int int " + INDEX + " " + ARGUMENT + " " + STATE,
        "int quote int int int int " + INDEX + " " + ARGUMENT + " " + STATE,
        "int released int " + INDEX,
        "int fees",
        "int firstSale int " + INDEX,
        "int exchanges int " + INDEX,
        "int bestOption int int " + ARGUMENT,
        "int bestWorth int int " + ARGUMENT,
        "int stock int int " + ARGUMENT,
        "int test int boolean " + ARGUMENT + " " + STATE,
        "int score int " + ARGUMENT,
    };

    private static final String[] CONSTANTS = {
        "NEW 0", "OPENED 1", "DAMAGED 2", "DEFECTIVE 3",
        "RESTOCK 0", "TEST 1", "REPAIR 2", "SALVAGE 3", "VENDOR 4",
    };

    public static void main(String[] args) throws IllegalAccessException {
        Class<?> face = BackhaulReturns.class;
        int modifiers = face.getModifiers();
        Check.holds("the class is public and final", Modifier.isPublic(modifiers) && Modifier.isFinal(modifiers));
        Check.holds("the constructor is public and the only one", hasOneConstructor(face));
        same("methods", methodsOf(face), METHODS);
        same("constants", constantsOf(face), CONSTANTS);
        Check.finish("FaceTest");
    }

    private static boolean hasOneConstructor(Class<?> face) {
        Constructor<?>[] all = face.getDeclaredConstructors();
        return all.length == 1 && Modifier.isPublic(all[0].getModifiers()) && all[0].getParameterCount() == 0;
    }

    private static Set<String> methodsOf(Class<?> face) {
        Set<String> found = new TreeSet<>();
        Set<String> names = new TreeSet<>();
        for (Method method : face.getDeclaredMethods()) {
            if (!Modifier.isPrivate(method.getModifiers())) {
                found.add(textOf(method));
                names.add(method.getName());
            }
        }
        for (Method method : face.getDeclaredMethods()) {
            Check.holds(method.getName() + " is both public and private",
                    !Modifier.isPrivate(method.getModifiers()) || !names.contains(method.getName()));
        }
        return found;
    }

    private static String textOf(Method method) {
        StringBuilder text = new StringBuilder(method.getReturnType().getSimpleName());
        text.append(' ').append(method.getName());
        for (Class<?> type : method.getParameterTypes()) {
            text.append(' ').append(type.getSimpleName());
        }
        for (Class<?> type : method.getExceptionTypes()) {
            text.append(' ').append(type.getSimpleName());
        }
        return text.toString();
    }

    private static Set<String> constantsOf(Class<?> face) throws IllegalAccessException {
        Set<String> found = new TreeSet<>();
        for (Field field : face.getDeclaredFields()) {
            if (!Modifier.isPrivate(field.getModifiers())) {
                boolean isConstant = Modifier.isStatic(field.getModifiers()) && Modifier.isFinal(field.getModifiers());
                found.add(field.getName() + " " + (isConstant ? field.get(null) : "is no constant"));
            }
        }
        return found;
    }

    private static void same(String what, Set<String> found, String[] due) {
        Set<String> all = new TreeSet<>(Arrays.asList(due));
        Check.holds(what + " are " + found + ", due are " + all, found.equals(all));
    }
}
