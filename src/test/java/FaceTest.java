import java.lang.reflect.Constructor;
import java.lang.reflect.Field;
import java.lang.reflect.Method;
import java.lang.reflect.Modifier;
import java.util.Map;
import java.util.TreeMap;
import java.util.TreeSet;

/** The public face: what the document names, and no other member that is not private. */
public final class FaceTest {
    private static final Bench BENCH = new Bench("FaceTest");

    public static void main(String[] args) {
        Class<?> face = LoopDevice.class;
        BENCH.due("the class", Modifier.toString(face.getModifiers()), "public final");
        BENCH.due("its package", face.getPackageName(), "");
        constructors(face);
        fields(face);
        methods(face);
        nested(face);
        BENCH.end();
    }

    private static void constructors(Class<?> face) {
        TreeSet<String> found = new TreeSet<>();
        for (Constructor<?> c : face.getDeclaredConstructors()) {
            found.add(c.toString());
        }
        BENCH.due("constructors", found.toString(), "[public LoopDevice(int,int,int)]");
    }

    private static void fields(Class<?> face) {
        TreeSet<String> found = new TreeSet<>();
        for (Field f : face.getDeclaredFields()) {
            if (!Modifier.isPrivate(f.getModifiers())) {
                found.add(f.toString());
            }
        }
        BENCH.due("fields", found.toString(), "[public static final int LoopDevice.NONE]");
    }

    private static void methods(Class<?> face) {
        TreeMap<String, Integer> named = new TreeMap<>();
        TreeSet<String> found = new TreeSet<>();
        for (Method m : face.getDeclaredMethods()) {
            named.merge(m.getName(), 1, Integer::sum);
            if (!Modifier.isPrivate(m.getModifiers())) {
                found.add(m.toString().replace("LoopDevice.", ""));
            }
        }
        BENCH.due("methods", found.toString(), "[public int failure(boolean), public int now(), "
                + "public int octet(int), public int octets(int), public int sent(int), public int tag(int), "
                + "public int tick(int), public int when(int), public long has(int), "
                + "public long variable(int,int)]");
        for (Map.Entry<String, Integer> entry : named.entrySet()) {
            BENCH.due("methods named " + entry.getKey(), entry.getValue(), 1);
        }
    }

    private static void nested(Class<?> face) {
        for (Class<?> inside : face.getDeclaredClasses()) {
            int modifiers = inside.getModifiers();
            boolean hidden = !Modifier.isPublic(modifiers) && !Modifier.isProtected(modifiers);
            BENCH.due(inside.getName() + " is hidden", hidden ? 1 : 0, 1);
            BENCH.due(inside.getName() + " is static", Modifier.isStatic(modifiers) ? 1 : 0, 1);
        }
    }
}
