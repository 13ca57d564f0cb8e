import java.lang.reflect.Constructor;
import java.lang.reflect.Field;
import java.lang.reflect.Method;
import java.lang.reflect.Modifier;
import java.util.Arrays;
import java.util.TreeSet;

/** The public face: what the document says, and nothing else that can be seen. */
public final class FaceTest {
    private static final String[] METHODS = {
        "disk(int,int,int) void IllegalArgumentException",
        "dot(int,int) int IndexOutOfBoundsException",
        "peek(int) int IllegalArgumentException",
        "poke(int,int) void IllegalArgumentException",
        "processor(int) int ",
        "run(int) int IllegalArgumentException",
        "sector(int,int) int IllegalArgumentException",
        "state(int) int ",
        "stick(int) void IllegalArgumentException",
        "write(int,int) void IllegalArgumentException",
    };

    public static void main(String[] args) {
        Check check = new Check();
        Class<?> face = PictureMachine.class;
        check.due("the class is public and final",
            face.getModifiers() & (Modifier.PUBLIC | Modifier.FINAL), Modifier.PUBLIC | Modifier.FINAL);
        check.due("NONE", PictureMachine.NONE, -1);
        check.due("methods", seenMethods(face), Arrays.toString(METHODS));
        check.due("constants", seenFields(face), "[NONE]");
        check.due("constructors", seenConstructors(face), "[public PictureMachine()]");
        check.end();
    }

    private static String seenMethods(Class<?> face) {
        TreeSet<String> seen = new TreeSet<>();
        for (Method method : face.getDeclaredMethods()) {
            if (!Modifier.isPrivate(method.getModifiers())) {
                seen.add(method.getName() + "(" + names(method.getParameterTypes()) + ") "
                    + method.getReturnType().getSimpleName() + " " + names(method.getExceptionTypes()));
            }
        }
        return seen.toString();
    }

    private static String names(Class<?>[] types) {
        StringBuilder names = new StringBuilder();
        for (Class<?> type : types) {
            names.append(names.length() == 0 ? "" : ",").append(type.getSimpleName());
        }
        return names.toString();
    }

    private static String seenFields(Class<?> face) {
        TreeSet<String> seen = new TreeSet<>();
        for (Field field : face.getDeclaredFields()) {
            if (!Modifier.isPrivate(field.getModifiers())) {
                seen.add(field.getName());
            }
        }
        return seen.toString();
    }

    private static String seenConstructors(Class<?> face) {
        TreeSet<String> seen = new TreeSet<>();
        for (Constructor<?> constructor : face.getDeclaredConstructors()) {
            seen.add(constructor.toString());
        }
        return seen.toString();
    }
}
