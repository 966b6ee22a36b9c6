import java.lang.reflect.Constructor;
import java.lang.reflect.Field;
import java.lang.reflect.Method;
import java.lang.reflect.Modifier;
import java.util.Arrays;
import java.util.Set;
import java.util.TreeSet;

/** The public face is the document's, and what can be seen of LANGUAGE.md's rules is kept. */
public final class FaceTest {
    private static final Set<String> FACE = new TreeSet<>(Arrays.asList(
            "int feed[int, int, int, int, int]",
            "boolean end[int]",
            "int raster[int, int]",
            "boolean put[int, int, int, int]",
            "boolean wipe[int, int, int]",
            "long cell[int, int, int]",
            "int size[int, int]",
            "int rasters[]",
            "int algebra[]",
            "int place[]",
            "int spread[int, int]"));

    public static void main(String[] args) {
        Class<?> face = CellAlgebra.class;
        Check.due("public and final", face.getModifiers(), Modifier.PUBLIC | Modifier.FINAL);
        Set<String> open = new TreeSet<>();
        Set<String> publicNames = new TreeSet<>();
        for (Method m : face.getDeclaredMethods()) {
            if (!Modifier.isPrivate(m.getModifiers())) {
                Check.due(m + " is public", Modifier.isPublic(m.getModifiers()), true);
                open.add(m.getReturnType() + " " + m.getName()
                        + Arrays.toString(m.getParameterTypes()));
                publicNames.add(m.getName());
            }
        }
        Check.due("methods " + open, open.equals(FACE), true);
        Constructor<?>[] constructors = face.getDeclaredConstructors();
        Check.due("constructors", constructors.length, 1);
        Check.due("a constructor's parameters", constructors[0].getParameterCount(), 0);
        Check.due("a public constructor", constructors[0].getModifiers(), Modifier.PUBLIC);
        for (Field f : face.getDeclaredFields()) {
            Check.due(f + " is private", Modifier.isPrivate(f.getModifiers()), true);
        }
        rules(face, publicNames);
        Class<?>[] inside = face.getDeclaredClasses();
        Check.due("at most twelve classes", inside.length <= 11, true);
        for (Class<?> c : inside) {
            Check.due(c + " is static", Modifier.isStatic(c.getModifiers()), true);
            Check.due(c + " is public", Modifier.isPublic(c.getModifiers()), false);
            rules(c, publicNames);
        }
        Check.finish();
    }

    private static void rules(Class<?> c, Set<String> publicNames) {
        int fields = 0;
        for (Field f : c.getDeclaredFields()) {
            if (Modifier.isStatic(f.getModifiers())) {
                Check.due(f + " is final", Modifier.isFinal(f.getModifiers()), true);
            } else {
                fields++;
            }
        }
        Check.due(c + " has at most twenty fields", fields <= 20, true);
        for (Method m : c.getDeclaredMethods()) {
            Check.due(m + " takes at most seven", m.getParameterCount() <= 7, true);
            boolean hides = !Modifier.isPublic(m.getModifiers())
                    && publicNames.contains(m.getName());
            Check.due(m + " bears a public name", hides, false);
        }
    }
}
