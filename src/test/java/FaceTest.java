import java.lang.reflect.Constructor;
import java.lang.reflect.Field;
import java.lang.reflect.Method;
import java.lang.reflect.Modifier;
import java.util.Arrays;
import java.util.Set;
import java.util.TreeSet;

/** The class has the document's face, and nothing beside it that can be seen. */
public final class FaceTest {
    private static final String[] FACE = {
        "boolean put(int, int, long)",
        "boolean fill(int, int, int)",
        "boolean copy(int, int, int)",
        "int byteAt(int)",
        "int fault()",
        "int items() IllegalStateException",
        "int letter(int, int) IllegalStateException IndexOutOfBoundsException",
        "long about(int, int) IllegalStateException IndexOutOfBoundsException IllegalArgumentException",
        "int content(int, int) IllegalStateException IndexOutOfBoundsException",
        "int enter(int) IllegalStateException IndexOutOfBoundsException IllegalArgumentException",
        "boolean up() IllegalStateException",
    };

    private static String written(Method m) {
        StringBuilder text = new StringBuilder(m.getReturnType().getSimpleName() + " " + m.getName() + "(");
        for (int i = 0; i < m.getParameterCount(); i++) {
            text.append(i == 0 ? "" : ", ").append(m.getParameterTypes()[i].getSimpleName());
        }
        text.append(")");
        for (Class<?> thrown : m.getExceptionTypes()) {
            text.append(" ").append(thrown.getSimpleName());
        }
        return text.toString();
    }

    public static void main(String[] args) {
        Cases.run(FaceTest.class);
    }

    static void promises_haveTheDocumentsFace(Check check) {
        Class<?> face = InodeVolumes.class;
        check.yes("the class is public and final",
                Modifier.isPublic(face.getModifiers()) && Modifier.isFinal(face.getModifiers()));
        Set<String> seen = new TreeSet<>();
        Set<String> names = new TreeSet<>();
        for (Method m : face.getDeclaredMethods()) {
            if (!Modifier.isPrivate(m.getModifiers())) {
                check.yes(m + " is public and not static",
                        Modifier.isPublic(m.getModifiers()) && !Modifier.isStatic(m.getModifiers()));
                seen.add(written(m));
                names.add(m.getName());
            }
        }
        check.yes("the methods are " + seen, seen.equals(new TreeSet<>(Arrays.asList(FACE))));
        for (Method m : face.getDeclaredMethods()) {
            if (Modifier.isPrivate(m.getModifiers())) {
                check.yes(m + " bears a public method's name", !names.contains(m.getName()));
            }
        }
        for (Field f : face.getDeclaredFields()) {
            if (!Modifier.isPrivate(f.getModifiers())) {
                check.yes(f + " is not of the face", f.getName().equals("NONE"));
            }
            if (Modifier.isStatic(f.getModifiers())) {
                check.yes(f + " is not final", Modifier.isFinal(f.getModifiers()));
            }
        }
        check.same("NONE", InodeVolumes.NONE, -1);
        Constructor<?>[] made = face.getDeclaredConstructors();
        check.yes("one public constructor of an int", made.length == 1 && Modifier.isPublic(made[0].getModifiers())
                && Arrays.equals(made[0].getParameterTypes(), new Class<?>[] {int.class}));
        for (Class<?> inside : face.getDeclaredClasses()) {
            check.yes(inside + " is static and not to be seen from outside", Modifier.isStatic(inside.getModifiers())
                    && !Modifier.isPublic(inside.getModifiers()) && !Modifier.isProtected(inside.getModifiers()));
        }
    }
}
