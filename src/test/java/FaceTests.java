import java.lang.reflect.Constructor;
import java.lang.reflect.Executable;
import java.lang.reflect.Field;
import java.lang.reflect.Member;
import java.lang.reflect.Method;
import java.lang.reflect.Modifier;
import java.util.Set;
import java.util.TreeSet;

/** The public face: what the class shows is what the document lists, and nothing else. */
public final class FaceTests {
    private static final String STORE = "ForeignKeyStore";
    private static final String INDEX = "IndexOutOfBoundsException";
    private static final String ARGUMENT = "IllegalArgumentException";
    private static final String STATE = "IllegalStateException";

    private static final String[] FACE = {
        "int NULL = -1", "int NONE = -2",
        "int RESTRICT = 0", "int NO_ACTION = 1", "int CASCADE = 2", "int SET_NULL = 3",
        STORE + "()",
        "int define(int int int int boolean) " + INDEX + " " + ARGUMENT + " " + STATE,
        "int drop(int int) " + INDEX + " " + STATE,
        "int setMode(int int boolean) " + INDEX + " " + STATE,
        "int insert(int int int int) " + INDEX + " " + ARGUMENT + " " + STATE,
        "int update(int int int int) " + INDEX + " " + ARGUMENT + " " + STATE,
        "int delete(int int) " + INDEX + " " + STATE,
        "int commit()", "int rollBack()", "int savePoint() " + STATE, "int rollBackTo(int) " + INDEX,
        "int appendText(int) " + ARGUMENT + " " + STATE, "int clearText()", "int errorPosition()",
        "int runText() " + STATE,
        "boolean exists(int int) " + INDEX, "int value(int int int) " + INDEX, "int rows(int) " + INDEX,
        "int references(int int) " + INDEX, "int ancestors(int int) " + INDEX,
        "int constraint(int int int) " + INDEX + " " + ARGUMENT, "int constraints()",
        "int firstViolation()", "int ifDeleted(int int) " + INDEX, "int changes()",
        "int savePoints()", "int textLength()",
    };

    private static String withTypes(String name, Executable executable) {
        StringBuilder text = new StringBuilder(name).append('(');
        String gap = "";
        for (Class<?> type : executable.getParameterTypes()) {
            text.append(gap).append(type.getSimpleName());
            gap = " ";
        }
        text.append(')');
        for (Class<?> type : executable.getExceptionTypes()) {
            text.append(' ').append(type.getSimpleName());
        }
        return text.toString();
    }

    private static boolean isShown(Member member) {
        return !Modifier.isPrivate(member.getModifiers()) && !member.isSynthetic();
    }

    private static Set<String> shownMembers() throws IllegalAccessException {
        Set<String> shown = new TreeSet<>();
        for (Field field : ForeignKeyStore.class.getDeclaredFields()) {
            if (isShown(field)) {
                shown.add(field.getType() + " " + field.getName() + " = " + field.get(null));
            }
        }
        for (Constructor<?> constructor : ForeignKeyStore.class.getDeclaredConstructors()) {
            if (isShown(constructor)) {
                shown.add(withTypes(STORE, constructor));
            }
        }
        for (Method method : ForeignKeyStore.class.getDeclaredMethods()) {
            if (isShown(method)) {
                shown.add(withTypes(method.getReturnType() + " " + method.getName(), method));
            }
        }
        return shown;
    }

    private static void checkModifiers(Checks checks) {
        int finalClass = Modifier.PUBLIC | Modifier.FINAL;
        checks.due("modifiers of the class", ForeignKeyStore.class.getModifiers(), finalClass);
        for (Field field : ForeignKeyStore.class.getDeclaredFields()) {
            int modifiers = field.getModifiers();
            if (isShown(field)) {
                int constant = Modifier.PUBLIC | Modifier.STATIC | Modifier.FINAL;
                checks.due("modifiers of " + field.getName(), modifiers, constant);
            }
        }
        for (Method method : ForeignKeyStore.class.getDeclaredMethods()) {
            if (isShown(method)) {
                checks.due("modifiers of " + method.getName(), method.getModifiers(), Modifier.PUBLIC);
            }
        }
    }

    private static void checkPrivateNames(Checks checks) {
        Set<String> names = new TreeSet<>();
        for (Method method : ForeignKeyStore.class.getDeclaredMethods()) {
            if (isShown(method)) {
                names.add(method.getName());
            }
        }
        for (Method method : ForeignKeyStore.class.getDeclaredMethods()) {
            if (!isShown(method)) {
                checks.due("a private " + method.getName(), names.contains(method.getName()), false);
            }
        }
    }

    public static void main(String[] args) throws IllegalAccessException {
        Checks checks = new Checks();
        checks.about("the public face");
        checks.due("the members", shownMembers().toString(), new TreeSet<>(Set.of(FACE)).toString());
        checkModifiers(checks);
        checkPrivateNames(checks);
        checks.end("FaceTests");
    }
}
