import java.lang.reflect.Constructor;
import java.lang.reflect.Field;
import java.lang.reflect.Member;
import java.lang.reflect.Method;
import java.lang.reflect.Modifier;
import java.util.Arrays;
import java.util.HashSet;
import java.util.Set;
import java.util.TreeSet;

/** The class has the document's face and shows nothing else. */
public final class FaceTest {
    private static final Set<String> FACE = new TreeSet<>(Set.of(
        "boolean put(int, long)",
        "void wipe()",
        "int send(int, int) throws IllegalArgumentException, IllegalStateException",
        "int bit(int, int)",
        "short sample(boolean, int, boolean) throws IndexOutOfBoundsException",
        "int air(int, int, int) throws IllegalArgumentException, IllegalStateException",
        "boolean disturb(int, short, short)",
        "boolean stir(int, int)",
        "boolean cut(int)",
        "int receive() throws IllegalStateException",
        "int got(int)",
        "int heard(int)",
        "int learned(int, boolean)"));

    private FaceTest() {
    }

    public static void main(String[] args) {
        Class<CarrierLink> face = CarrierLink.class;
        Check.same("the class", Modifier.toString(face.getModifiers()), "public final");
        methods(face);
        constructors(face);
        fields(face);
        for (Class<?> inside : face.getDeclaredClasses()) {
            Check.holds(inside + " is static", Modifier.isStatic(inside.getModifiers()));
            Check.holds(inside + " is not seen", !Modifier.isPublic(inside.getModifiers()));
            staticFields(inside);
        }
        Check.end();
    }

    private static void methods(Class<?> face) {
        Set<String> seen = new TreeSet<>();
        Set<String> publicNames = new HashSet<>();
        for (Method m : face.getDeclaredMethods()) {
            if (!Modifier.isPrivate(m.getModifiers()) && !m.isSynthetic()) {
                Check.same(m + " is", Modifier.toString(m.getModifiers()), "public");
                seen.add(m.getReturnType() + " " + m.getName() + names("(", m.getParameterTypes(), ")")
                    + (m.getExceptionTypes().length == 0 ? "" : names(" throws ", m.getExceptionTypes(), "")));
                publicNames.add(m.getName());
            }
        }
        Check.same("the methods", seen, FACE);
        for (Method m : face.getDeclaredMethods()) {
            boolean hidden = Modifier.isPrivate(m.getModifiers());
            Check.holds(m + " has a name of its own", !hidden || !publicNames.contains(m.getName()));
        }
    }

    private static String names(String before, Class<?>[] types, String behind) {
        StringBuilder text = new StringBuilder(before);
        for (int k = 0; k < types.length; k++) {
            text.append(k == 0 ? "" : ", ").append(types[k].getSimpleName());
        }
        return text.append(behind).toString();
    }

    private static void constructors(Class<?> face) {
        Constructor<?>[] all = face.getDeclaredConstructors();
        Check.same("how many constructors", all.length, 1);
        Check.same("the constructor", Arrays.toString(all), "[public CarrierLink()]");
    }

    private static void fields(Class<?> face) {
        for (Field f : face.getDeclaredFields()) {
            boolean none = f.getName().equals("NONE");
            Check.same(f + " is seen", isSeen(f), none);
        }
        staticFields(face);
    }

    private static void staticFields(Class<?> owner) {
        for (Field f : owner.getDeclaredFields()) {
            if (Modifier.isStatic(f.getModifiers())) {
                Check.holds(f + " is final", Modifier.isFinal(f.getModifiers()));
            }
        }
    }

    private static boolean isSeen(Member m) {
        return !Modifier.isPrivate(m.getModifiers());
    }
}
