import java.lang.reflect.Constructor;
import java.lang.reflect.Field;
import java.lang.reflect.Method;
import java.lang.reflect.Modifier;
import java.util.Arrays;
import java.util.Set;
import java.util.TreeSet;
import java.util.stream.Collectors;

/** The public face is the document's and no more, and the class keeps to rules 1 and 5 of LANGUAGE.md. */
public final class FaceTest {
    private static final String BOTH = " throws IllegalArgumentException, IllegalStateException";
    private static final Set<String> FACE = new TreeSet<>(Set.of(
        "long deal(long)",
        "long commit(int, long)" + BOTH,
        "long begin(int, long)" + BOTH,
        "long sign(int)" + BOTH,
        "boolean submit(int, long)" + BOTH,
        "boolean relay(int, long)" + BOTH,
        "long seal() throws IllegalStateException",
        "boolean check(long, long, long)",
        "boolean holds(long, long)" + BOTH,
        "long recover(int)" + BOTH,
        "long key(int)",
        "long secret(int)",
        "long commitment(int, boolean)",
        "long factor(int)",
        "long weight(int)",
        "long challenge()",
        "int members()",
        "int taken()",
        "int blamed()"));

    private static final Checks CHECKS = new Checks();

    public static void main(String[] args) {
        Class<ThresholdSeal> face = ThresholdSeal.class;
        CHECKS.yes("the class is public and final",
            Modifier.isPublic(face.getModifiers()) && Modifier.isFinal(face.getModifiers()));
        constructors(face);
        methods(face);
        for (Field field : face.getDeclaredFields()) {
            CHECKS.yes("field " + field.getName() + " is private", Modifier.isPrivate(field.getModifiers()));
        }
        for (Class<?> inside : face.getDeclaredClasses()) {
            CHECKS.yes(inside.getName() + " is static and not public", Modifier.isStatic(inside.getModifiers())
                && !Modifier.isPublic(inside.getModifiers()) && !Modifier.isProtected(inside.getModifiers()));
            staticFields(inside);
        }
        staticFields(face);
        CHECKS.end("FaceTest");
    }

    private static void constructors(Class<?> face) {
        Constructor<?>[] all = face.getDeclaredConstructors();
        CHECKS.yes("there is one constructor", all.length == 1);
        CHECKS.yes("it is public", Modifier.isPublic(all[0].getModifiers()));
        CHECKS.yes("it takes two ints", Arrays.equals(all[0].getParameterTypes(), new Class<?>[] {int.class, int.class}));
        CHECKS.yes("it throws nothing", all[0].getExceptionTypes().length == 0);
    }

    private static void methods(Class<?> face) {
        Set<String> open = new TreeSet<>();
        Set<String> names = new TreeSet<>();
        for (Method method : face.getDeclaredMethods()) {
            if (!Modifier.isPrivate(method.getModifiers())) {
                open.add(written(method));
                names.add(method.getName());
                CHECKS.yes(method.getName() + " is public and no static method",
                    Modifier.isPublic(method.getModifiers()) && !Modifier.isStatic(method.getModifiers()));
            }
        }
        CHECKS.yes("the face is " + FACE + ", not " + open, open.equals(FACE));
        for (Method method : face.getDeclaredMethods()) {
            CHECKS.yes("private " + method.getName() + " has a name of its own",
                !Modifier.isPrivate(method.getModifiers()) || !names.contains(method.getName()));
        }
    }

    private static String written(Method method) {
        String taken = Arrays.stream(method.getParameterTypes()).map(Class::getSimpleName).collect(Collectors.joining(", "));
        String thrown = Arrays.stream(method.getExceptionTypes()).map(Class::getSimpleName).collect(Collectors.joining(", "));
        String head = method.getReturnType().getSimpleName() + " " + method.getName() + "(" + taken + ")";
        return thrown.isEmpty() ? head : head + " throws " + thrown;
    }

    private static void staticFields(Class<?> owner) {
        for (Field field : owner.getDeclaredFields()) {
            CHECKS.yes(owner.getName() + "." + field.getName() + " is no static state",
                !Modifier.isStatic(field.getModifiers()) || Modifier.isFinal(field.getModifiers()));
        }
    }
}
