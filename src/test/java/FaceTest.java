import java.lang.reflect.Constructor;
import java.lang.reflect.Field;
import java.lang.reflect.Method;
import java.lang.reflect.Modifier;
import java.util.Arrays;
import java.util.Set;
import java.util.TreeSet;

/** The public face is the document's, and nothing else of the class can be seen. */
public final class FaceTest {
    public static void main(String[] args) {
        Check.same("the class", "public final", Modifier.toString(LandingPads.class.getModifiers()));
        Set<String> want = new TreeSet<>(Arrays.asList(
                "public LandingPads()",
                "public int LandingPads.type(int) IllegalArgumentException IllegalStateException",
                "public int LandingPads.add(int,int,int) IllegalArgumentException IllegalStateException",
                "public void LandingPads.wipe(int) IllegalArgumentException",
                "public int LandingPads.compile(int) IllegalArgumentException IllegalStateException",
                "public int LandingPads.size(int,int) IllegalArgumentException",
                "public int LandingPads.code(int,int,int) NoSuchElementException",
                "public int LandingPads.action(int,int,int) NoSuchElementException",
                "public int LandingPads.site(int,int,int) NoSuchElementException",
                "public int LandingPads.run(int) IllegalArgumentException IllegalStateException",
                "public int LandingPads.count(int) IllegalArgumentException",
                "public int LandingPads.out(int) NoSuchElementException"));
        Check.same("the face", want.toString(), face().toString());
        Check.same("the document's face", want.toString(), documentsFace().toString());
        Check.same("private methods with a public one's name", "[]", hiddenNamesakes().toString());
        Check.finish("FaceTest");
    }

    private static Set<String> face() {
        Set<String> face = new TreeSet<>();
        for (Constructor<?> c : LandingPads.class.getDeclaredConstructors()) {
            face.add(c.toString());
        }
        for (Method m : LandingPads.class.getDeclaredMethods()) {
            if (!Modifier.isPrivate(m.getModifiers())) {
                face.add(describe(m));
            }
        }
        for (Field f : LandingPads.class.getDeclaredFields()) {
            if (!Modifier.isPrivate(f.getModifiers())) {
                face.add(f.toString());
            }
        }
        return face;
    }

    /** The document's lines, "public int type(int parent) throws A, B;", as describe writes methods. */
    private static Set<String> documentsFace() {
        Set<String> face = new TreeSet<>();
        for (String line : Document.face()) {
            face.add(line.replace(";", "").replace(" throws", "")
                    .replaceAll("int \\w+([,)])", "int$1")
                    .replaceAll(", int", ",int")
                    .replaceAll("(Exception), ", "$1 ")
                    .replaceAll("public (int|void) ", "public $1 LandingPads."));
        }
        return face;
    }

    private static String describe(Method m) {
        StringBuilder text = new StringBuilder(m.toString().replaceAll(" throws.*", ""));
        for (Class<?> thrown : m.getExceptionTypes()) {
            text.append(' ').append(thrown.getSimpleName());
        }
        return text.toString();
    }

    private static Set<String> hiddenNamesakes() {
        Set<String> shown = new TreeSet<>();
        Set<String> hidden = new TreeSet<>();
        for (Method m : LandingPads.class.getDeclaredMethods()) {
            (Modifier.isPrivate(m.getModifiers()) ? hidden : shown).add(m.getName());
        }
        hidden.retainAll(shown);
        return hidden;
    }
}
