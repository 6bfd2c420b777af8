import java.lang.reflect.Constructor;
import java.lang.reflect.Field;
import java.lang.reflect.Method;
import java.lang.reflect.Modifier;
import java.util.Set;
import java.util.TreeSet;

/** The public face is the document's, with nothing more and nothing less. */
public final class FaceTest {
    private static final String[] METHODS = {
        "int addNode(int,int,int,int,int) IllegalArgumentException IllegalStateException",
        "int move(int,int,int) IndexOutOfBoundsException IllegalArgumentException",
        "int assume(int,int) IndexOutOfBoundsException IllegalArgumentException",
        "int assumed(int) IndexOutOfBoundsException",
        "int distance(int,int) IndexOutOfBoundsException",
        "int counter(int,int) IndexOutOfBoundsException IllegalArgumentException",
        "int exchange(int,int,int,int) IndexOutOfBoundsException IllegalArgumentException IllegalStateException",
        "int plan(int,int,int,int,int) IndexOutOfBoundsException IllegalArgumentException IllegalStateException",
        "int nextPlanned()",
        "int run(int) IllegalArgumentException",
        "long now()",
        "int exchanges()",
        "int stamp(int,int) IndexOutOfBoundsException IllegalArgumentException",
        "int party(int,int) IndexOutOfBoundsException IllegalArgumentException",
        "int range(int,int) IndexOutOfBoundsException IllegalArgumentException",
        "int latestRange(int,int,int) IndexOutOfBoundsException IllegalArgumentException IllegalStateException",
        "int worstError(int) IllegalArgumentException",
        "double meanError(int) IllegalArgumentException",
        "double relativeDrift(int) IndexOutOfBoundsException ArithmeticException",
        "int calibrate(int,int,int) IndexOutOfBoundsException IllegalArgumentException IllegalStateException",
        "int fix(int,int,int,int) IndexOutOfBoundsException IllegalArgumentException IllegalStateException"
            + " ArithmeticException",
        "int undo() IllegalStateException",
        "long digest()"};

    private static final Checks CHECKS = new Checks();

    public static void main(String[] args) {
        Class<?> face = RangingNet.class;
        CHECKS.due("the class is public and final", Modifier.PUBLIC | Modifier.FINAL, face::getModifiers);
        CHECKS.due("methods", new TreeSet<>(Set.of(METHODS)), () -> methodsOf(face));
        CHECKS.due("private methods bear no public name", 0, () -> clashesIn(face));
        CHECKS.due("constructors", "[public RangingNet()]", () -> constructorsOf(face).toString());
        CHECKS.due("fields", "[public static final int RangingNet.NONE]", () -> fieldsOf(face).toString());
        CHECKS.due("NONE", -1, () -> RangingNet.NONE);
        for (Class<?> inside : face.getDeclaredClasses()) {
            int hidden = inside.getModifiers() & (Modifier.PUBLIC | Modifier.PROTECTED);
            CHECKS.due(inside + " is hidden", 0, () -> hidden);
            CHECKS.due(inside + " is static", true, () -> Modifier.isStatic(inside.getModifiers()));
        }
        CHECKS.finish("FaceTest");
    }

    private static Set<String> methodsOf(Class<?> face) {
        Set<String> found = new TreeSet<>();
        for (Method method : face.getDeclaredMethods()) {
            if (!Modifier.isPrivate(method.getModifiers()) && !method.isSynthetic()) {
                StringBuilder line = new StringBuilder();
                line.append(method.getModifiers() == Modifier.PUBLIC ? "" : "not only public: ");
                line.append(method.getReturnType()).append(' ').append(method.getName()).append('(');
                for (int i = 0; i < method.getParameterCount(); i++) {
                    line.append(i == 0 ? "" : ",").append(method.getParameterTypes()[i]);
                }
                line.append(')');
                for (Class<?> thrown : method.getExceptionTypes()) {
                    line.append(' ').append(thrown.getSimpleName());
                }
                found.add(line.toString());
            }
        }
        return found;
    }

    private static int clashesIn(Class<?> face) {
        Set<String> names = new TreeSet<>();
        for (Method method : face.getMethods()) {
            names.add(method.getName());
        }
        int clashes = 0;
        for (Method method : face.getDeclaredMethods()) {
            clashes += Modifier.isPrivate(method.getModifiers()) && names.contains(method.getName()) ? 1 : 0;
        }
        for (Class<?> inside : face.getDeclaredClasses()) {
            for (Method method : inside.getDeclaredMethods()) {
                clashes += names.contains(method.getName()) ? 1 : 0;
            }
        }
        return clashes;
    }

    private static Set<String> constructorsOf(Class<?> face) {
        Set<String> found = new TreeSet<>();
        for (Constructor<?> constructor : face.getDeclaredConstructors()) {
            found.add(constructor.toString());
        }
        return found;
    }

    private static Set<String> fieldsOf(Class<?> face) {
        Set<String> found = new TreeSet<>();
        for (Field field : face.getDeclaredFields()) {
            if (!Modifier.isPrivate(field.getModifiers())) {
                found.add(field.toString());
            }
        }
        return found;
    }
}
