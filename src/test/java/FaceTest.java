import java.lang.reflect.Constructor;
import java.lang.reflect.Field;
import java.lang.reflect.Method;
import java.lang.reflect.Modifier;
import java.util.HashSet;
import java.util.Set;
import java.util.TreeSet;

/** The public face is the document's, and nothing else of the class can be reached from outside. */
public final class FaceTest {
    private static final String[] FACE = {
        "pack(long) BAD FULL",
        "nickname(int,long) NONE LOCKED BAD FULL",
        "rename(int,long) NONE LOCKED BAD",
        "drop(int) NONE LOCKED CONFLICT",
        "find(long) BAD NONE",
        "choose(int) BAD",
        "use(int,int) NONE LOCKED BAD CONFLICT",
        "unuse(int,int) NONE LOCKED",
        "intern(int,long) NONE BAD FULL",
        "means(int,long) NONE BAD",
        "export(int,int) NONE LOCKED BAD CONFLICT",
        "unexport(int,int) NONE LOCKED",
        "bring(int,int) NONE LOCKED CONFLICT",
        "seize(int,int) NONE LOCKED",
        "shadow(int,long) NONE LOCKED BAD FULL",
        "unintern(int,int) NONE LOCKED CONFLICT",
        "listed(int,int) NONE FULL",
        "all(long,int) BAD FULL",
        "about(int,int) NONE BAD",
        "look(int,int) NONE BAD",
        "count(int) BAD",
    };

    private static int wrong = 0;

    private static void check(boolean holds, String what) {
        if (!holds) {
            wrong++;
            System.out.println(what);
        }
    }

    private static String kind(Class<?> thrown) {
        switch (thrown.getSimpleName()) {
            case "NoSuchElementException": return "NONE";
            case "UnsupportedOperationException": return "LOCKED";
            case "IllegalArgumentException": return "BAD";
            case "IllegalStateException": return "CONFLICT";
            case "IndexOutOfBoundsException": return "FULL";
            default: return thrown.getSimpleName();
        }
    }

    private static String describe(Method method) {
        StringBuilder text = new StringBuilder(method.getName());
        String between = "(";
        for (Class<?> parameter : method.getParameterTypes()) {
            text.append(between).append(parameter.getSimpleName());
            between = ",";
        }
        text.append(')');
        for (Class<?> thrown : method.getExceptionTypes()) {
            text.append(' ').append(kind(thrown));
        }
        return text.toString();
    }

    private static void checkMethods() {
        Set<String> due = new TreeSet<>(Set.of(FACE));
        Set<String> names = new HashSet<>();
        for (String line : FACE) {
            names.add(line.substring(0, line.indexOf('(')));
        }
        Set<String> got = new TreeSet<>();
        for (Method method : SymbolHouse.class.getDeclaredMethods()) {
            if (Modifier.isPrivate(method.getModifiers())) {
                check(!names.contains(method.getName()), "private, with a public name: " + method);
                continue;
            }
            check(Modifier.isPublic(method.getModifiers()) && !Modifier.isStatic(method.getModifiers()), "not public: " + method);
            check(method.getReturnType() == int.class, "answers no int: " + method);
            got.add(describe(method));
        }
        check(got.equals(due), "the face is " + got + ", due is " + due);
    }

    private static void checkTheRest() {
        check(Modifier.isFinal(SymbolHouse.class.getModifiers()), "the class is not final");
        for (Field field : SymbolHouse.class.getDeclaredFields()) {
            int modifiers = field.getModifiers();
            check(Modifier.isPrivate(modifiers), "not private: " + field);
            check(!Modifier.isStatic(modifiers) || Modifier.isFinal(modifiers), "static and not final: " + field);
        }
        Constructor<?>[] constructors = SymbolHouse.class.getDeclaredConstructors();
        check(constructors.length == 1 && constructors[0].getParameterCount() == 0
            && Modifier.isPublic(constructors[0].getModifiers()), "not the one public constructor");
    }

    public static void main(String[] args) {
        checkMethods();
        checkTheRest();
        System.out.println(wrong == 0 ? "the face is as due" : wrong + " things are not as due");
        if (wrong != 0) {
            System.exit(1);
        }
    }
}
