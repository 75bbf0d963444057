import java.lang.reflect.Constructor;
import java.lang.reflect.Field;
import java.lang.reflect.Method;
import java.lang.reflect.Modifier;
import java.util.Set;
import java.util.TreeSet;

/** The public face as the document writes it, and no other member that is not private. */
public final class FaceTest {
    private static final String[] FACE = {
        "public static final int MachineTables.NONE",
        "public MachineTables()",
        "public int MachineTables.machine(int,int)",
        "public boolean MachineTables.arrow(int,int,int,int,int)",
        "public int MachineTables.look(int,int,int,int)",
        "public int MachineTables.classes(int)",
        "public int MachineTables.like(int,int)",
        "public boolean MachineTables.alike(int,int,int,int)"
            + " throws java.lang.IllegalArgumentException",
        "public int MachineTables.least(int)",
        "public int MachineTables.part(int,int)",
        "public int MachineTables.reset(int)",
        "public int MachineTables.home(int) throws java.lang.ArithmeticException",
        "public int MachineTables.chain(int,int) throws java.lang.ArithmeticException",
        "public int MachineTables.letter(int) throws java.util.NoSuchElementException",
        "public int MachineTables.along(int,int)",
        "public void MachineTables.clear()",
        "public int MachineTables.total(int)",
    };

    public static void main(String[] args) {
        Set<String> face = new TreeSet<>();
        for (Field field : MachineTables.class.getDeclaredFields()) {
            if (!Modifier.isPrivate(field.getModifiers())) {
                face.add(field.toString());
            }
        }
        for (Constructor<?> constructor : MachineTables.class.getDeclaredConstructors()) {
            face.add(constructor.toString());
        }
        Set<String> names = new TreeSet<>();
        for (Method method : MachineTables.class.getDeclaredMethods()) {
            if (!Modifier.isPrivate(method.getModifiers())) {
                face.add(method.toString());
                names.add(method.getName());
            }
        }
        for (Method method : MachineTables.class.getDeclaredMethods()) {
            boolean isHidden = Modifier.isPrivate(method.getModifiers());
            Due.is("a private method named " + method.getName(), false,
                isHidden && names.contains(method.getName()));
        }
        Due.same("the face", new TreeSet<>(Set.of(FACE)).toString(), face.toString());
        Due.is("NONE", -1, MachineTables.NONE);
        Due.is("final", true, Modifier.isFinal(MachineTables.class.getModifiers()));
        Due.end();
    }
}
