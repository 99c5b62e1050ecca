import java.lang.reflect.Constructor;
import java.lang.reflect.Field;
import java.lang.reflect.Method;
import java.lang.reflect.Modifier;
import java.util.Arrays;
import java.util.TreeSet;

/** The document's public face, to the letter, and the rules 1, 2 and 5 of LANGUAGE.md about it. */
final class FaceTest {
    private static final Check CHECK = new Check();
    private static final String[] FACE = {
        "plant(int, int) int IIllArgIllState", "eat(int, int) int IIllState",
        "pick(int, int) int IIllState", "split(int, int, int) int IIllArgIllState",
        "join(int, int) int IIllState", "apples() int ", "turnings() int ", "sizeOf(int) int I",
        "top(int) int I", "height(int) int I", "leastHeight(int) int I", "depths(int) int I",
        "smallest(int) int I", "greatest(int) int I", "inOrder(int, int) int I",
        "leaves(int) int I", "has(int, int) boolean I", "smaller(int, int) int I",
        "depthOf(int, int) int IIllState", "above(int, int) int IIllState",
        "leftOf(int, int) int IIllState", "rightOf(int, int) int IIllState",
        "below(int, int) int IIllState", "eaten(int, int) int IIllState", "favourite(int) int I",
        "meet(int, int, int) int IIllState", "depthBehind(int, int, int) int IIllState",
        "heightBehind(int, int) int IIllState", "bestToEat(int) int I",
        "plantDepth(int, int) int IIllArg", "canJoin(int, int) boolean I",
        "meanDepth(int) double I", "digest() long ",
    };

    private FaceTest() {
    }

    public static void main(String[] args) {
        TreeSet<String> open = new TreeSet<>();
        TreeSet<String> openNames = new TreeSet<>();
        for (Method method : SplayOrchard.class.getDeclaredMethods()) {
            if (Modifier.isPublic(method.getModifiers())) {
                open.add(textOf(method));
                openNames.add(method.getName());
            }
        }
        CHECK.sameText("the face", open.toString(), new TreeSet<>(Arrays.asList(FACE)).toString());
        CHECK.same("final and public", SplayOrchard.class.getModifiers(),
                Modifier.FINAL | Modifier.PUBLIC);
        constructors();
        methods(SplayOrchard.class, openNames);
        fields(SplayOrchard.class);
        for (Class<?> inside : SplayOrchard.class.getDeclaredClasses()) {
            int modifiers = inside.getModifiers();
            if (!Modifier.isStatic(modifiers) || Modifier.isPublic(modifiers)) {
                CHECK.complain(inside + " is public or not static");
            }
            methods(inside, openNames);
            fields(inside);
        }
        CHECK.end();
    }

    private static void constructors() {
        Constructor<?>[] all = SplayOrchard.class.getDeclaredConstructors();
        CHECK.same("number of constructors", all.length, 1);
        CHECK.same("its parameters", all[0].getParameterCount(), 0);
        CHECK.same("it is public", Modifier.isPublic(all[0].getModifiers()), true);
    }

    private static void methods(Class<?> of, TreeSet<String> openNames) {
        for (Method method : of.getDeclaredMethods()) {
            boolean ofFace = of == SplayOrchard.class && Modifier.isPublic(method.getModifiers());
            if (of == SplayOrchard.class && !ofFace && !Modifier.isPrivate(method.getModifiers())) {
                CHECK.complain(method + " is neither public nor private");
            }
            if (!ofFace && openNames.contains(method.getName())) {
                CHECK.complain(method + " bears the name of a public one");
            }
            if (method.getParameterCount() > 7) {
                CHECK.complain(method + " takes more than seven parameters");
            }
        }
    }

    private static void fields(Class<?> of) {
        for (Field field : of.getDeclaredFields()) {
            int modifiers = field.getModifiers();
            if (of == SplayOrchard.class && !Modifier.isPrivate(modifiers)) {
                CHECK.complain(field + " is not private");
            }
            if (Modifier.isStatic(modifiers) && !Modifier.isFinal(modifiers)) {
                CHECK.complain(field + " is static and not final");
            }
            if (Modifier.isStatic(modifiers) && !isConstant(field.getType())) {
                CHECK.complain(field + " is static and an object");
            }
        }
    }

    private static boolean isConstant(Class<?> type) {
        Class<?> of = type.isArray() ? type.getComponentType() : type;
        return of.isPrimitive() || type == String.class;
    }

    private static String textOf(Method method) {
        String parameters = Arrays.toString(method.getParameterTypes());
        StringBuilder text = new StringBuilder(method.getName());
        text.append('(').append(parameters, 1, parameters.length() - 1).append(") ");
        text.append(method.getReturnType().getSimpleName()).append(' ');
        for (Class<?> thrown : method.getExceptionTypes()) {
            text.append(shortName(thrown));
        }
        return text.toString();
    }

    private static String shortName(Class<?> thrown) {
        if (thrown == IndexOutOfBoundsException.class) {
            return "I";
        }
        if (thrown == IllegalArgumentException.class) {
            return "IllArg";
        }
        return thrown == IllegalStateException.class ? "IllState" : thrown.getName();
    }
}
