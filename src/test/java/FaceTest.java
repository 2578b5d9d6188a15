import java.lang.reflect.Constructor;
import java.lang.reflect.Field;
import java.lang.reflect.Method;
import java.lang.reflect.Modifier;
import java.util.Arrays;
import java.util.TreeSet;

/** The face: the constants, the constructor and the methods of the document with their throws, and no others. */
public final class FaceTest {
    private static final String I = "IndexOutOfBounds ";
    private static final String A = "IllegalArgument ";
    private static final String S = "IllegalState ";

    private static final String[] METHODS = {
        "int part(int, int, int) " + A + S, "int limits(int, int, int, int) " + A, "int fit(int, int) " + I + A + S,
        "int take(int) " + I + S, "void scrap(int) " + I + S, "int run(int, int, int) " + I + A + S,
        "int turn(int) " + I + A + S, "int gate(int, int) " + I + A, "int examine(int) " + I + S,
        "void waive(int, int) " + I + A + S, "int flaw(int, int) " + I + A, "int look(int, boolean) " + I + S,
        "int clear(int) " + I + S, "int recall(int) " + A, "int release(int) " + I + A,
        "int comes(int, int) " + I + A + S, "int night() " + S, "int out() " + S, "int host(int) " + I,
        "int head(int) " + I, "int ofPart(int, int) " + I + A, "int trace(int, int) " + I, "int lifeAnew(int) " + I,
        "int wheel(int, int) " + I + A, "int foretell(int, int, int) " + I + A, "int bars(int) " + I + A,
        "int barredBy(int) " + I + A, "boolean isReleased(int) " + I + A, "int plan() ", "int planAnew() ",
        "int road(int, int) " + I
    };

    private static final Check check = new Check();

    public static void main(String[] args) throws Exception {
        constants();
        constructor();
        methods();
        nestedClasses();
        check.end();
    }

    private static void constants() throws IllegalAccessException {
        TreeSet<String> open = new TreeSet<>();
        for (Field field : WheelWorks.class.getDeclaredFields()) {
            if (!Modifier.isPrivate(field.getModifiers())) {
                check.due(field + " is a public constant", field.getModifiers(),
                    Modifier.PUBLIC | Modifier.STATIC | Modifier.FINAL);
                open.add(field.getType() + " " + field.getName() + " " + field.getInt(null));
            }
            if (Modifier.isStatic(field.getModifiers())) {
                check.due(field + " is final", Modifier.isFinal(field.getModifiers()), true);
            }
        }
        check.due("constants", open.toString(),
            "[int BOGIE 2, int COACH 1, int MOTOR 4, int NONE -1, int SCRAPPED -2, int TRAIN 0, int WHEELSET 3]");
    }

    private static void constructor() {
        check.due("the class is public and final", WheelWorks.class.getModifiers(),
            Modifier.PUBLIC | Modifier.FINAL);
        Constructor<?>[] all = WheelWorks.class.getDeclaredConstructors();
        check.due("constructors", Arrays.toString(all), "[public WheelWorks()]");
    }

    private static void methods() {
        TreeSet<String> open = new TreeSet<>();
        TreeSet<String> openNames = new TreeSet<>();
        TreeSet<String> hiddenNames = new TreeSet<>();
        for (Method method : WheelWorks.class.getDeclaredMethods()) {
            if (Modifier.isPrivate(method.getModifiers())) {
                hiddenNames.add(method.getName());
            } else {
                check.due(method + " is public alone", method.getModifiers(), Modifier.PUBLIC);
                open.add(written(method));
                openNames.add(method.getName());
            }
        }
        check.due("methods", open.toString(), new TreeSet<>(Arrays.asList(METHODS)).toString());
        hiddenNames.retainAll(openNames);
        check.due("private methods with the name of a public one", hiddenNames.toString(), "[]");
    }

    private static String written(Method method) {
        StringBuilder text = new StringBuilder();
        text.append(method.getReturnType()).append(' ').append(method.getName()).append('(');
        String between = "";
        for (Class<?> type : method.getParameterTypes()) {
            text.append(between).append(type);
            between = ", ";
        }
        text.append(") ");
        for (Class<?> thrown : method.getExceptionTypes()) {
            text.append(thrown.getSimpleName().replace("Exception", "")).append(' ');
        }
        return text.toString();
    }

    private static void nestedClasses() {
        for (Class<?> nested : WheelWorks.class.getDeclaredClasses()) {
            int modifiers = nested.getModifiers();
            check.due(nested + " is static", Modifier.isStatic(modifiers), true);
            check.due(nested + " is hidden", Modifier.isPublic(modifiers) || Modifier.isProtected(modifiers), false);
            int fields = 0;
            for (Field field : nested.getDeclaredFields()) {
                boolean constant = Modifier.isStatic(field.getModifiers());
                check.due(field + " is no static state", !constant || Modifier.isFinal(field.getModifiers()), true);
                fields += constant ? 0 : 1;
            }
            check.due(nested + " has some twenty fields at most", fields <= 20, true);
        }
    }
}
