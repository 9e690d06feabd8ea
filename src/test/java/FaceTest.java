import java.lang.reflect.Constructor;
import java.lang.reflect.Field;
import java.lang.reflect.Method;
import java.lang.reflect.Modifier;
import java.util.HashSet;
import java.util.Set;
import java.util.TreeSet;

/** The face has each member of the document, and no other member than these is to be seen from outside. */
public final class FaceTest {
    private static final String IAE = " throws IllegalArgumentException";
    private static final String ISE = " throws IllegalStateException";
    private static final String IOOBE = " throws IndexOutOfBoundsException";
    private static final String IAE_ISE = " throws IllegalArgumentException, IllegalStateException";

    private static final String[] FACE = {
        "int travel(int, int)" + IAE, "boolean setStation(boolean)", "boolean isStation()", "int pressure()",
        "int altitude()", "int minutes()", "int standard(int)" + IAE, "int setSea(int)" + IAE,
        "int calibrate(int)" + IAE, "int sea()", "int drift()", "int calibrations()", "int setThreshold(int)" + IAE,
        "int ascent()", "int descent()", "int base()", "int setMark()", "int marks()", "int markTime(int)" + IOOBE,
        "int markAltitude(int)" + IOOBE, "int climbed(int, int)" + IOOBE, "int setAlarm(int)" + IAE, "int logged()",
        "int fall()", "boolean isAlarm()", "int alarms()", "int altitudeAfter(int, int)" + IAE,
        "int ascentIn(int, int)" + IAE, "int pressureAt(int)" + IAE, "int minutesToAlarm(int)" + IAE,
        "double climbShare()", "int append(int)" + IAE_ISE, "int clearText()", "int firstError()", "int run()" + IAE,
        "int undo()" + ISE, "int savedStates()", "int store(int)" + IAE, "int recall(int)" + IAE_ISE, "long digest()",
    };

    public static void main(String[] args) {
        Check check = new Check("FaceTest");
        Class<AltimeterWatch> watch = AltimeterWatch.class;
        check.due("class", Modifier.toString(watch.getModifiers()), "public final");
        check.due("superclass", watch.getSuperclass().getName(), "java.lang.Object");
        check.due("interfaces", watch.getInterfaces().length, 0);
        check.due("NONE", AltimeterWatch.NONE, -1);
        checkMethods(check, watch);
        checkConstructor(check, watch);
        checkFields(check, watch);
        checkClasses(check, watch);
        check.end();
    }

    private static void checkMethods(Check check, Class<?> watch) {
        Set<String> due = new TreeSet<>(Set.of(FACE));
        Set<String> publicNames = publicNames(watch);
        Set<String> got = new TreeSet<>();
        for (Method method : watch.getDeclaredMethods()) {
            if (Modifier.isPublic(method.getModifiers())) {
                check.due(method.getName() + " modifiers", Modifier.toString(method.getModifiers()), "public");
                got.add(signature(method));
            }
        }
        check.due("number of public methods", FACE.length, 40);
        check.due("public methods", got.toString(), due.toString());
        for (Method method : watch.getDeclaredMethods()) {
            if (!Modifier.isPublic(method.getModifiers())) {
                check.due(method + " is private", Modifier.isPrivate(method.getModifiers()), true);
                check.due(method + " bears a public name", publicNames.contains(method.getName()), false);
            }
        }
    }

    private static Set<String> publicNames(Class<?> watch) {
        Set<String> names = new HashSet<>();
        for (Method method : watch.getDeclaredMethods()) {
            if (Modifier.isPublic(method.getModifiers())) {
                names.add(method.getName());
            }
        }
        return names;
    }

    private static String signature(Method method) {
        StringBuilder types = new StringBuilder();
        for (Class<?> type : method.getParameterTypes()) {
            types.append(types.length() == 0 ? "" : ", ").append(type.getSimpleName());
        }
        StringBuilder thrown = new StringBuilder();
        for (Class<?> type : method.getExceptionTypes()) {
            thrown.append(thrown.length() == 0 ? " throws " : ", ").append(type.getSimpleName());
        }
        return method.getReturnType().getSimpleName() + " " + method.getName() + "(" + types + ")" + thrown;
    }

    private static void checkConstructor(Check check, Class<?> watch) {
        Constructor<?>[] constructors = watch.getDeclaredConstructors();
        check.due("constructors", constructors.length, 1);
        check.due("constructor", constructors[0].toString(), "public AltimeterWatch()");
    }

    private static void checkFields(Check check, Class<?> watch) {
        for (Field field : watch.getDeclaredFields()) {
            boolean isNone = field.getName().equals("NONE");
            String modifiers = Modifier.toString(field.getModifiers());
            if (isNone) {
                check.due("NONE modifiers", modifiers + " " + field.getType(), "public static final int");
            } else {
                check.due(field + " is private", Modifier.isPrivate(field.getModifiers()), true);
            }
            if (Modifier.isStatic(field.getModifiers())) {
                check.due(field + " is final", Modifier.isFinal(field.getModifiers()), true);
            }
        }
    }

    private static void checkClasses(Check check, Class<?> watch) {
        check.due("number of classes", watch.getDeclaredClasses().length <= 12, true);
        Set<String> publicNames = publicNames(watch);
        for (Class<?> inside : watch.getDeclaredClasses()) {
            int modifiers = inside.getModifiers();
            boolean hidden = !Modifier.isPublic(modifiers) && !Modifier.isProtected(modifiers);
            check.due(inside + " is hidden", hidden, true);
            check.due(inside + " is static", Modifier.isStatic(modifiers), true);
            for (Method method : inside.getDeclaredMethods()) {
                check.due(method + " bears a public name", publicNames.contains(method.getName()), false);
            }
        }
    }
}
