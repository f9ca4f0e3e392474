import java.lang.reflect.Constructor;
import java.lang.reflect.Field;
import java.lang.reflect.Method;
import java.lang.reflect.Modifier;
import java.util.Set;
import java.util.TreeSet;

/** The public face: the class has what the document gives it, and nothing else that another class could use. */
public final class FaceTest {
    private static final String[] FACE = {
        "public static final int NONE",
        "public ScanCoder()",
        "public boolean frame(int, int, int, int)",
        "public void counts(long, long)",
        "public boolean symbols(long, int)",
        "public boolean make(int)",
        "public boolean scan(int, int, int, int, int)",
        "public boolean tables(int, int, int)",
        "public boolean restart(int)",
        "public boolean set(int, int, int, int)",
        "public int get(int, int, int)",
        "public int write()",
        "public int read()",
        "public int tally()",
        "public int often(int, int)",
        "public boolean give(long, int)",
        "public boolean cut(int)",
        "public int data(int)",
        "public int look(int)",
    };

    public static void main(String[] args) {
        Class<?> it = ScanCoder.class;
        Kit.same("public and final", it.getModifiers(), Modifier.PUBLIC | Modifier.FINAL);
        Kit.same("no class above it", it.getSuperclass() == Object.class ? 1 : 0, 1);
        Kit.same("no interfaces", it.getInterfaces().length, 0);
        Kit.sameText("the face", String.join("; ", faceOf(it)), String.join("; ", new TreeSet<>(Set.of(FACE))));
        Kit.same("NONE", ScanCoder.NONE, -1);
        for (Class<?> inside : it.getDeclaredClasses()) {
            int modifiers = inside.getModifiers();
            Kit.yes(inside + " is static", Modifier.isStatic(modifiers));
            Kit.no(inside + " is seen from outside", Modifier.isPublic(modifiers) || Modifier.isProtected(modifiers));
        }
        noPrivateMethodBearsAPublicName(it);
        Kit.done();
    }

    /** All members that are not private; what the compiler made is none. */
    private static Set<String> faceOf(Class<?> it) {
        Set<String> face = new TreeSet<>();
        for (Constructor<?> one : it.getDeclaredConstructors()) {
            add(face, one.getModifiers(), one.isSynthetic(), one.toString());
        }
        for (Method one : it.getDeclaredMethods()) {
            add(face, one.getModifiers(), one.isSynthetic(), one.toString());
        }
        for (Field one : it.getDeclaredFields()) {
            add(face, one.getModifiers(), one.isSynthetic(), one.toString());
        }
        return face;
    }

    private static void add(Set<String> face, int modifiers, boolean made, String text) {
        if (!made && !Modifier.isPrivate(modifiers)) {
            face.add(text.replace("ScanCoder.", "").replace(",", ", "));
        }
    }

    private static void noPrivateMethodBearsAPublicName(Class<?> it) {
        Set<String> seen = new TreeSet<>();
        for (Method one : it.getDeclaredMethods()) {
            if (!one.isSynthetic()) {
                Kit.yes(one.getName() + " is there once", seen.add(one.getName()));
            }
        }
    }
}
