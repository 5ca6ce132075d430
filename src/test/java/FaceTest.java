import java.lang.reflect.Constructor;
import java.lang.reflect.Field;
import java.lang.reflect.Member;
import java.lang.reflect.Method;
import java.lang.reflect.Modifier;
import java.util.Arrays;
import java.util.Set;
import java.util.TreeSet;

/** The public face: the constants, the constructor and the methods of the document, and no other. */
public final class FaceTest {
    private static final String[] METHODS = {
        "put int int", "clearPoints", "type char", "clearText", "readPoints", "draw int",
        "rub int int int", "smooth int int", "thin int int", "join int int", "shift int int int",
        "paint int int", "remove int", "undo", "redo", "stroke int int", "point int int int",
        "read int", "line int int", "word int int", "setGap int", "nearest int int", "cell int int",
        "color int int", "count int"};
    private static final String[] CONSTANTS = {
        "BAD_VALUE -2", "FULL -3", "NONE -5", "NOT_POSSIBLE -4", "UNKNOWN -1"};

    public static void main(String[] args) throws IllegalAccessException {
        Due due = new Due();
        same(due, "methods", METHODS, methods(due));
        same(due, "constants", CONSTANTS, constants());
        constructor(due);
        due.is("the class", InkPad.class.getModifiers() & (Modifier.PUBLIC | Modifier.FINAL),
                Modifier.PUBLIC | Modifier.FINAL);
        privateNames(due);
        classesInside(due);
        due.end();
    }

    private static void same(Due due, String what, String[] wanted, Set<String> got) {
        Set<String> wantedSet = new TreeSet<>(Arrays.asList(wanted));
        if (!wantedSet.equals(got)) {
            due.wrong(what + " are " + got + ", due are " + wantedSet);
        }
    }

    private static Set<String> methods(Due due) {
        Set<String> found = new TreeSet<>();
        for (Method method : InkPad.class.getDeclaredMethods()) {
            if (isOpen(method)) {
                StringBuilder text = new StringBuilder(method.getName());
                for (Class<?> type : method.getParameterTypes()) {
                    text.append(' ').append(type.getName());
                }
                found.add(text.toString());
                if (method.getReturnType() != int.class || Modifier.isStatic(method.getModifiers())) {
                    due.wrong(method + " is not what the document says");
                }
            }
        }
        return found;
    }

    private static Set<String> constants() throws IllegalAccessException {
        Set<String> found = new TreeSet<>();
        for (Field field : InkPad.class.getDeclaredFields()) {
            int modifiers = field.getModifiers();
            if (Modifier.isPublic(modifiers) && Modifier.isStatic(modifiers)
                    && Modifier.isFinal(modifiers) && field.getType() == int.class) {
                found.add(field.getName() + " " + field.getInt(null));
            } else if (isOpen(field)) {
                found.add(field.toString());
            }
        }
        return found;
    }

    private static void constructor(Due due) {
        Constructor<?>[] all = InkPad.class.getDeclaredConstructors();
        due.is("constructors", all.length, 1);
        due.is("its parameters", all[0].getParameterCount(), 0);
        due.is("its modifiers", all[0].getModifiers(), Modifier.PUBLIC);
    }

    private static boolean isOpen(Member member) {
        return !Modifier.isPrivate(member.getModifiers()) && !member.isSynthetic();
    }

    /** No private method bears the name of a public one. */
    private static void privateNames(Due due) {
        Set<String> names = new TreeSet<>();
        for (String method : METHODS) {
            names.add(method.split(" ")[0]);
        }
        for (Method method : InkPad.class.getDeclaredMethods()) {
            if (!isOpen(method) && names.contains(method.getName())) {
                due.wrong("private and public: " + method.getName());
            }
        }
        for (Class<?> inside : InkPad.class.getDeclaredClasses()) {
            for (Method method : inside.getDeclaredMethods()) {
                if (names.contains(method.getName())) {
                    due.wrong("the name of a public method: " + method);
                }
            }
        }
    }

    /** Classes inside are few, static and not public; they and the class have few fields. */
    private static void classesInside(Due due) {
        Class<?>[] inside = InkPad.class.getDeclaredClasses();
        if (inside.length > 11) {
            due.wrong("too many classes: " + inside.length);
        }
        fewFields(due, InkPad.class);
        for (Class<?> one : inside) {
            if (!Modifier.isStatic(one.getModifiers()) || Modifier.isPublic(one.getModifiers())) {
                due.wrong(one + " is public or not static");
            }
            fewFields(due, one);
        }
    }

    private static void fewFields(Due due, Class<?> one) {
        long fields = Arrays.stream(one.getDeclaredFields())
                .filter(field -> !Modifier.isStatic(field.getModifiers())).count();
        if (fields > 20) {
            due.wrong(one + " has " + fields + " fields");
        }
        for (Field field : one.getDeclaredFields()) {
            if (Modifier.isStatic(field.getModifiers()) && !Modifier.isFinal(field.getModifiers())) {
                due.wrong(field + " is static and not final");
            }
        }
    }
}
