import java.lang.reflect.Constructor;
import java.lang.reflect.Field;
import java.lang.reflect.Method;
import java.lang.reflect.Modifier;
import java.util.Arrays;
import java.util.Set;
import java.util.TreeSet;

/** The face is the document's: its constants, its constructor and its methods, and nothing else is to be seen. */
public final class FaceTest {
    private static final String INDEX = "IndexOutOfBoundsException";
    private static final String ARGUMENT = "IllegalArgumentException";
    private static final String STATE = "IllegalStateException";

    private static final String[] FACE = {
        "station(int,int) " + ARGUMENT + " " + STATE,
        "rain(int,int,int) " + INDEX + " " + ARGUMENT,
        "pass(int) " + ARGUMENT + " " + STATE,
        "phase(int,boolean,int,int,int) " + ARGUMENT + " " + STATE,
        "product(int) " + ARGUMENT + " " + STATE,
        "farm(int,int) " + ARGUMENT + " " + STATE,
        "lend(int,int) " + INDEX + " " + ARGUMENT + " " + STATE,
        "loading(int) " + ARGUMENT,
        "layer(int,int) " + ARGUMENT,
        "sell(int,int,int,int) " + INDEX + " " + ARGUMENT + " " + STATE,
        "settle(int) " + INDEX + " " + STATE,
        "loss(int,int,int) " + INDEX + " " + ARGUMENT + " " + STATE,
        "complain(int,int) " + INDEX + " " + STATE,
        "day()",
        "filled(int,int,int) " + INDEX + " " + ARGUMENT,
        "onset(int,int,int) " + INDEX + " " + ARGUMENT,
        "index(int,int,int,int) " + INDEX,
        "rate(int,int,int) " + INDEX,
        "priced(int,int) " + INDEX,
        "cover(int,int) " + INDEX + " " + ARGUMENT,
        "dueAnew(int) " + INDEX,
        "told(int,int) " + INDEX + " " + ARGUMENT,
        "books(int) " + ARGUMENT,
    };

    public static void main(String[] args) throws Exception {
        Class<?> face = RainIndex.class;
        Check.same("public final", face.getModifiers(), Modifier.PUBLIC | Modifier.FINAL);
        constants(face);
        constructors(face);
        methods(face);
        classesInside(face);
        Check.report("FaceTest");
    }

    private static void constants(Class<?> face) throws Exception {
        Set<String> seen = new TreeSet<>();
        for (Field field : face.getDeclaredFields()) {
            if (!Modifier.isPrivate(field.getModifiers())) {
                Check.same(field.getName() + "'s modifiers", field.getModifiers(),
                        Modifier.PUBLIC | Modifier.STATIC | Modifier.FINAL);
                seen.add(field.getName() + "=" + field.getInt(null));
            }
        }
        if (!seen.equals(new TreeSet<>(Arrays.asList("NONE=-1", "FIRST=0", "REVISED=1")))) {
            Check.fail("the constants are " + seen);
        }
    }

    private static void constructors(Class<?> face) {
        Constructor<?>[] all = face.getDeclaredConstructors();
        Check.same("constructors", all.length, 1);
        Check.same("the constructor's arguments", all[0].getParameterCount(), 0);
        Check.same("the constructor's modifiers", all[0].getModifiers(), Modifier.PUBLIC);
    }

    private static void methods(Class<?> face) {
        Set<String> seen = new TreeSet<>();
        Set<String> names = new TreeSet<>();
        for (Method method : face.getDeclaredMethods()) {
            if (!Modifier.isPrivate(method.getModifiers())) {
                Check.same(method.getName() + "'s modifiers", method.getModifiers(), Modifier.PUBLIC);
                Check.same(method.getName() + " answers an int", method.getReturnType() == int.class ? 1 : 0, 1);
                seen.add(written(method));
                names.add(method.getName());
            }
        }
        if (!seen.equals(new TreeSet<>(Arrays.asList(FACE)))) {
            Check.fail("the methods are " + seen);
        }
        for (Method method : face.getDeclaredMethods()) {
            if (Modifier.isPrivate(method.getModifiers()) && names.contains(method.getName())) {
                Check.fail("a private method is named as the public one " + method.getName());
            }
        }
    }

    private static String written(Method method) {
        StringBuilder text = new StringBuilder(method.getName()).append('(');
        for (Class<?> type : method.getParameterTypes()) {
            text.append(text.charAt(text.length() - 1) == '(' ? "" : ",").append(type.getSimpleName());
        }
        text.append(')');
        for (Class<?> thrown : method.getExceptionTypes()) {
            text.append(' ').append(thrown.getSimpleName());
        }
        return text.toString();
    }

    private static void classesInside(Class<?> face) {
        for (Class<?> inside : face.getDeclaredClasses()) {
            int modifiers = inside.getModifiers();
            Check.same(inside.getName() + " is static", Modifier.isStatic(modifiers) ? 1 : 0, 1);
            Check.same(inside.getName() + " is hidden",
                    Modifier.isPublic(modifiers) || Modifier.isProtected(modifiers) ? 1 : 0, 0);
        }
    }
}
