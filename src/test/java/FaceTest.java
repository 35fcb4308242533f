import java.lang.reflect.Constructor;
import java.lang.reflect.Field;
import java.lang.reflect.Member;
import java.lang.reflect.Method;
import java.lang.reflect.Modifier;
import java.util.ArrayList;
import java.util.Collections;
import java.util.List;

/** The public face: the constant, the constructor and the seven methods, and nothing else. */
public final class FaceTest {
    public static void main(String[] args) {
        House h = new House("FaceTest");
        h.says("The public face");
        h.same("the class", Modifier.toString(MacroHouse.class.getModifiers()), "public final");
        h.same("what it extends", MacroHouse.class.getSuperclass(), Object.class);
        h.same("what it implements", MacroHouse.class.getInterfaces().length, 0);
        h.same("NONE", MacroHouse.NONE, -1);
        h.same("fields", fields(), List.of("public static final int NONE"));
        h.same("constructors", constructors(), List.of("public MacroHouse()"));
        h.same("methods", methods(), List.of(
                "public int about(int) throws IllegalArgumentException",
                "public int constant(int,int) "
                        + "throws IndexOutOfBoundsException,IllegalArgumentException",
                "public int expand()",
                "public int line(int,int) "
                        + "throws IndexOutOfBoundsException,IllegalArgumentException",
                "public int macro(int,int) "
                        + "throws IndexOutOfBoundsException,IllegalArgumentException",
                "public int put(int) "
                        + "throws IllegalArgumentException,UnsupportedOperationException",
                "public void end(int) throws IllegalArgumentException"));
        h.done();
    }

    /** What javac adds for itself is no member that the program wrote. */
    private static boolean isSeen(Member member) {
        return !Modifier.isPrivate(member.getModifiers()) && !member.isSynthetic();
    }

    private static String plain(Object member) {
        return member.toString().replace("java.lang.", "").replace("MacroHouse.", "");
    }

    private static List<String> fields() {
        List<String> seen = new ArrayList<>();
        for (Field field : MacroHouse.class.getDeclaredFields()) {
            if (isSeen(field)) {
                seen.add(plain(field));
            }
        }
        return seen;
    }

    private static List<String> constructors() {
        List<String> seen = new ArrayList<>();
        for (Constructor<?> constructor : MacroHouse.class.getDeclaredConstructors()) {
            if (isSeen(constructor)) {
                seen.add(plain(constructor));
            }
        }
        return seen;
    }

    private static List<String> methods() {
        List<String> seen = new ArrayList<>();
        for (Method method : MacroHouse.class.getDeclaredMethods()) {
            if (isSeen(method)) {
                seen.add(plain(method));
            }
        }
        Collections.sort(seen);
        return seen;
    }
}
