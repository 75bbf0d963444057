import java.io.IOException;
import java.lang.reflect.Constructor;
import java.lang.reflect.Field;
import java.lang.reflect.Method;
import java.lang.reflect.Modifier;
import java.nio.file.Files;
import java.nio.file.Path;
import java.util.Set;
import java.util.TreeSet;
import java.util.regex.Matcher;
import java.util.regex.Pattern;

/** The public face as the document writes it, and no other member that is not private. */
public final class FaceTest {
    private static final String[] FACE = {
        "public static final int MachineTables.NONE",
        "public MachineTables()",
        "public int MachineTables.machine(int,int)",
        "public boolean MachineTables.arrow(int,int,int,int,int)",
        "public int MachineTables.look(int,int,int,int)",
        "public int MachineTables.classes(int)",
        "public int MachineTables.like(int,int)",
        "public boolean MachineTables.alike(int,int,int,int)"
            + " throws java.lang.IllegalArgumentException",
        "public int MachineTables.least(int)",
        "public int MachineTables.part(int,int)",
        "public int MachineTables.reset(int)",
        "public int MachineTables.home(int) throws java.lang.ArithmeticException",
        "public int MachineTables.chain(int,int) throws java.lang.ArithmeticException",
        "public int MachineTables.letter(int) throws java.util.NoSuchElementException",
        "public int MachineTables.along(int,int)",
        "public void MachineTables.clear()",
        "public int MachineTables.total(int)",
    };

    private static final Path DOCUMENT = Path.of("../shared/DOC.md");
    /** A line of the document's class, or what stands ahead of a promise's words. */
    private static final Pattern MEMBER = Pattern.compile("(?m)^    public (.*);$");
    private static final Pattern PROMISED = Pattern.compile("(?m)^`([^`]*)`: ");

    private FaceTest() {
    }

    /** FACE is the document's, and so is what each promise writes ahead of its words. */
    private static void checkDocument() throws IOException {
        if (!Files.exists(DOCUMENT)) {
            System.out.println("no " + DOCUMENT + " here, so the face is not compared with it");
            return;
        }
        String document = Files.readString(DOCUMENT);
        Set<String> face = new TreeSet<>();
        for (String member : FACE) {
            face.add(member.replaceAll("^public |MachineTables\\.|java\\.(lang|util)\\.", ""));
        }
        Set<String> written = found(MEMBER, document);
        Due.same("the document's face", face.toString(), written.toString());
        Due.is("NONE in it", true, document.contains("public static final int NONE = -1;"));
        Due.is("the class in it", true, document.contains("public final class MachineTables {"));
        written.remove("static final int NONE");
        Due.same("the promises' faces", written.toString(), found(PROMISED, document).toString());
    }

    private static Set<String> found(Pattern members, String document) {
        Set<String> found = new TreeSet<>();
        Matcher matcher = members.matcher(document);
        while (matcher.find()) {
            found.add(matcher.group(1).replaceAll("int \\w+(?=[,)])", "int").replace(", ", ",")
                .replace(" = -1", ""));
        }
        return found;
    }

    public static void main(String[] args) throws IOException {
        Set<String> face = new TreeSet<>();
        for (Field field : MachineTables.class.getDeclaredFields()) {
            if (!Modifier.isPrivate(field.getModifiers())) {
                face.add(field.toString());
            }
        }
        for (Constructor<?> constructor : MachineTables.class.getDeclaredConstructors()) {
            face.add(constructor.toString());
        }
        Set<String> names = new TreeSet<>();
        for (Method method : MachineTables.class.getDeclaredMethods()) {
            if (!Modifier.isPrivate(method.getModifiers())) {
                face.add(method.toString());
                names.add(method.getName());
            }
        }
        for (Method method : MachineTables.class.getDeclaredMethods()) {
            boolean isHidden = Modifier.isPrivate(method.getModifiers());
            Due.is("a private method named " + method.getName(), false,
                isHidden && names.contains(method.getName()));
        }
        Due.same("the face", new TreeSet<>(Set.of(FACE)).toString(), face.toString());
        Due.is("NONE", -1, MachineTables.NONE);
        Due.is("final", true, Modifier.isFinal(MachineTables.class.getModifiers()));
        Due.is("public", true, Modifier.isPublic(MachineTables.class.getModifiers()));
        checkDocument();
        Due.end();
    }
}
