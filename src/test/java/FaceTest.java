import java.lang.reflect.Constructor;
import java.lang.reflect.Field;
import java.lang.reflect.Method;
import java.lang.reflect.Modifier;
import java.util.Set;
import java.util.TreeSet;

/** The face of the class is the one that the document prints, and nothing else can be seen of it. */
public final class FaceTest {
    private static final Check CHECK = new Check("face");
    private static final String[] FACE = {
        "int feed(int int int int int) IllegalStateException",
        "int trim(int) IllegalArgumentException",
        "int teach()",
        "int errorAt()",
        "int count(int) IndexOutOfBoundsException",
        "int point(int int) IndexOutOfBoundsException",
        "int shape(int int) IndexOutOfBoundsException",
        "int corner(int int) IndexOutOfBoundsException",
        "int lies(int int) IndexOutOfBoundsException",
        "int crosses(int int) IndexOutOfBoundsException",
        "int hull(int int) IndexOutOfBoundsException",
        "int hullCorner(int int) IndexOutOfBoundsException",
        "int nearest(int int) IllegalArgumentException",
        "int enter(int int) IndexOutOfBoundsException",
        "int put(int int int) IndexOutOfBoundsException IllegalArgumentException",
        "boolean carry(int) IndexOutOfBoundsException",
        "int run()",
        "int undo() IllegalStateException",
        "int step(int int) IndexOutOfBoundsException",
        "int would(int) IndexOutOfBoundsException",
        "int without(int) IndexOutOfBoundsException",
        "double mean()",
        "long digest()",
    };

    private FaceTest() {
    }

    public static void main(String[] args) {
        Class<?> face = GridTable.class;
        CHECK.due("public and final", face.getModifiers() & (Modifier.PUBLIC | Modifier.FINAL),
            Modifier.PUBLIC | Modifier.FINAL);
        methods(face);
        Constructor<?>[] constructors = face.getDeclaredConstructors();
        CHECK.due("constructors", constructors.length, 1);
        CHECK.due("its parameters", constructors[0].getParameterCount(), 0);
        CHECK.due("public", Modifier.isPublic(constructors[0].getModifiers()) ? 1 : 0, 1);
        for (Field field : face.getDeclaredFields()) {
            CHECK.due("private: " + field, Modifier.isPrivate(field.getModifiers()) ? 1 : 0, 1);
        }
        nested(face);
        CHECK.end();
    }

    private static void methods(Class<?> face) {
        Set<String> wanted = new TreeSet<>(Set.of(FACE));
        Set<String> got = new TreeSet<>();
        Set<String> names = new TreeSet<>();
        for (Method method : face.getDeclaredMethods()) {
            if (!Modifier.isPrivate(method.getModifiers())) {
                CHECK.due("public: " + method, method.getModifiers(), Modifier.PUBLIC);
                got.add(text(method));
                names.add(method.getName());
            }
        }
        CHECK.due("the face " + got, got.equals(wanted) ? 1 : 0, 1);
        for (Method method : face.getDeclaredMethods()) {
            boolean isHidden = Modifier.isPrivate(method.getModifiers());
            CHECK.due("a name of its own: " + method, isHidden && names.contains(method.getName()) ? 1 : 0, 0);
        }
    }

    private static String text(Method method) {
        StringBuilder out = new StringBuilder(method.getReturnType() + " " + method.getName() + "(");
        String gap = "";
        for (Class<?> type : method.getParameterTypes()) {
            out.append(gap).append(type);
            gap = " ";
        }
        out.append(')');
        for (Class<?> type : method.getExceptionTypes()) {
            out.append(' ').append(type.getSimpleName());
        }
        return out.toString();
    }

    private static void nested(Class<?> face) {
        CHECK.due("classes, at most twelve", Math.max(12, face.getDeclaredClasses().length + 1), 12);
        for (Class<?> inner : face.getDeclaredClasses()) {
            int modifiers = inner.getModifiers();
            CHECK.due("private and static: " + inner,
                Modifier.isPrivate(modifiers) && Modifier.isStatic(modifiers) ? 1 : 0, 1);
            CHECK.due("fields, at most twenty: " + inner, Math.max(20, inner.getDeclaredFields().length), 20);
        }
    }
}
