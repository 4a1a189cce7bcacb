import java.lang.reflect.Constructor;
import java.lang.reflect.Field;
import java.lang.reflect.Method;
import java.lang.reflect.Modifier;
import java.util.ArrayList;
import java.util.Arrays;
import java.util.List;

/** The class bears the document's face, with the exceptions in its order, and nothing else that can be seen. */
public final class FaceTest {
    private static final String INDEX = "IndexOutOfBoundsException";
    private static final String ARGUMENT = "IllegalArgumentException";
    private static final String STATE = "IllegalStateException";
    private static final String[] FACE = {
        "int place(char, int) " + ARGUMENT + " " + STATE,
        "int lane(int, int, int) " + INDEX + " " + ARGUMENT + " " + STATE,
        "boolean isWhole()",
        "boolean fail(int, boolean) " + INDEX,
        "boolean spoil(boolean)",
        "int rank(int, int) " + INDEX + " " + ARGUMENT,
        "int rule(int, char, int, boolean) " + INDEX + " " + ARGUMENT + " " + STATE,
        "int condition(int, int, char, int) " + INDEX + " " + ARGUMENT + " " + STATE,
        "int action(int, char, int) " + INDEX + " " + ARGUMENT + " " + STATE,
        "int coin(int) " + ARGUMENT,
        "int begin(int) " + ARGUMENT + " " + STATE + " UnsupportedOperationException",
        "boolean press(int) " + INDEX + " " + STATE,
        "boolean letGo(int) " + INDEX + " " + STATE,
        "char push() " + STATE,
        "int tick(int) " + ARGUMENT + " " + STATE,
        "int player()",
        "int ball()",
        "long points(int) " + INDEX,
        "int variable(int, int) " + INDEX,
        "int lamps(int) " + INDEX,
        "char state(int) " + INDEX,
        "int at(int) " + INDEX + " NoSuchElementException",
        "int left(int) " + INDEX + " NoSuchElementException",
        "boolean runs(int) " + INDEX,
        "int heat(int) " + INDEX,
        "boolean isSeen(int) " + INDEX,
        "int bonus()",
        "int save()",
        "int cut(int) " + ARGUMENT,
        "long audit(int) " + INDEX,
        "float savedShare() ArithmeticException",
        "double meanPoints() ArithmeticException",
        "boolean isConsistent()",
    };

    public static void main(String[] args) {
        methodsOfTheFace();
        constructorOfTheFace();
        nothingElseIsSeen();
        Checks.end("FaceTest");
    }

    private static void methodsOfTheFace() {
        List<String> due = new ArrayList<>(Arrays.asList(FACE));
        for (Method method : Tiltcourt.class.getDeclaredMethods()) {
            if (Modifier.isPublic(method.getModifiers())) {
                String told = told(method);
                Checks.same("due: " + told, due.remove(told), true);
                Checks.same("not static: " + told, Modifier.isStatic(method.getModifiers()), false);
            }
        }
        Checks.same("left out: " + due, due.size(), 0);
    }

    private static String told(Method method) {
        StringBuilder told = new StringBuilder();
        told.append(method.getReturnType().getSimpleName()).append(' ').append(method.getName()).append('(');
        for (int i = 0; i < method.getParameterCount(); i++) {
            told.append(i > 0 ? ", " : "").append(method.getParameterTypes()[i].getSimpleName());
        }
        told.append(')');
        for (Class<?> thrown : method.getExceptionTypes()) {
            told.append(' ').append(thrown.getSimpleName());
        }
        return told.toString();
    }

    private static void constructorOfTheFace() {
        Constructor<?>[] all = Tiltcourt.class.getDeclaredConstructors();
        Checks.same("constructors", all.length, 1);
        Checks.same("its parameters", all[0].getParameterCount(), 0);
        Checks.same("it is public", Modifier.isPublic(all[0].getModifiers()), true);
        Checks.same("its exceptions", all[0].getExceptionTypes().length, 0);
        int modifiers = Tiltcourt.class.getModifiers();
        Checks.same("public and final", Modifier.isPublic(modifiers) && Modifier.isFinal(modifiers), true);
    }

    /** Rule 1 of LANGUAGE.md: no other member that is not private, and no private one with the name of a public one. */
    private static void nothingElseIsSeen() {
        List<String> faces = new ArrayList<>();
        for (String told : FACE) {
            faces.add(told.substring(told.indexOf(' ') + 1, told.indexOf('(')));
        }
        for (Field field : Tiltcourt.class.getDeclaredFields()) {
            Checks.same(field.getName() + " is private", Modifier.isPrivate(field.getModifiers()), true);
        }
        for (Method method : Tiltcourt.class.getDeclaredMethods()) {
            if (!Modifier.isPublic(method.getModifiers()) && !method.isSynthetic()) {
                Checks.same(method + " is private", Modifier.isPrivate(method.getModifiers()), true);
                Checks.same(method + " has a name of its own", faces.contains(method.getName()), false);
            }
        }
        for (Class<?> inside : Tiltcourt.class.getDeclaredClasses()) {
            boolean isHidden = !Modifier.isPublic(inside.getModifiers()) && !Modifier.isProtected(inside.getModifiers());
            Checks.same(inside + " is not seen, and static", isHidden && Modifier.isStatic(inside.getModifiers()), true);
        }
    }
}
