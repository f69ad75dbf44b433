import java.lang.reflect.Constructor;
import java.lang.reflect.Field;
import java.lang.reflect.Method;
import java.lang.reflect.Modifier;
import java.util.Arrays;
import java.util.Set;
import java.util.TreeSet;

/** The public face is the document's and nothing else (LANGUAGE.md, rules 1 and 5). */
public final class FaceTest {
    private static final Check CHECK = new Check();
    private static final String STATE = "IllegalStateException";
    private static final String ARGUMENT = "IllegalArgumentException";
    private static final String INDEX = "IndexOutOfBoundsException";

    public static void main(String[] args) {
        Class<?> face = ClosedSums.class;
        CHECK.holds("public final", Modifier.isPublic(face.getModifiers()) && Modifier.isFinal(face.getModifiers()));
        Constructor<?>[] constructors = face.getDeclaredConstructors();
        CHECK.equal("constructors", constructors.length, 1);
        CHECK.holds("public constructor", Modifier.isPublic(constructors[0].getModifiers()));
        CHECK.equal("its parameters", constructors[0].getParameterCount(), 0);
        methods(face);
        fields(face);
        names(face);
        CHECK.end();
    }

    private static void methods(Class<?> face) {
        Set<String> due = new TreeSet<>(Arrays.asList(
                "boolean put(boolean, int, long) " + INDEX,
                "int at(boolean, int) " + INDEX,
                "int found(int) " + STATE + ", " + ARGUMENT,
                "int degree(int) " + STATE + ", " + ARGUMENT,
                "int split(int, int) " + STATE + ", " + ARGUMENT,
                "int run() " + STATE,
                "int answer(int) " + STATE,
                "int closed(boolean, int) " + STATE,
                "int value(long) " + STATE,
                "int term(int) " + INDEX + ", " + STATE,
                "int sum(int) " + INDEX + ", " + STATE,
                "void shift(int) ",
                "void clear() "));
        Set<String> got = new TreeSet<>();
        for (Method method : face.getDeclaredMethods()) {
            if (!Modifier.isPrivate(method.getModifiers())) {
                got.add(text(method));
            }
        }
        CHECK.holds("methods " + got, got.equals(due));
    }

    private static String text(Method method) {
        return method.getReturnType() + " " + method.getName() + "("
                + names(method.getParameterTypes()) + ") " + names(method.getExceptionTypes());
    }

    private static String names(Class<?>[] types) {
        StringBuilder result = new StringBuilder();
        for (Class<?> type : types) {
            result.append(result.length() == 0 ? "" : ", ").append(type.getSimpleName());
        }
        return result.toString();
    }

    private static void fields(Class<?> face) {
        for (Field field : face.getDeclaredFields()) {
            CHECK.holds("private " + field, Modifier.isPrivate(field.getModifiers()));
            CHECK.holds("no static state " + field,
                    !Modifier.isStatic(field.getModifiers()) || Modifier.isFinal(field.getModifiers()));
        }
    }

    /** No private method and no method of a class inside bears the name of a public one. */
    private static void names(Class<?> face) {
        Set<String> open = new TreeSet<>();
        for (Method method : face.getDeclaredMethods()) {
            if (Modifier.isPublic(method.getModifiers())) {
                open.add(method.getName());
            }
        }
        for (Method method : face.getDeclaredMethods()) {
            CHECK.holds("own name " + method,
                    Modifier.isPublic(method.getModifiers()) || !open.contains(method.getName()));
        }
        for (Class<?> inside : face.getDeclaredClasses()) {
            CHECK.holds("static " + inside, Modifier.isStatic(inside.getModifiers()));
            for (Method method : inside.getDeclaredMethods()) {
                CHECK.holds("own name " + method, !open.contains(method.getName()));
            }
        }
    }
}
