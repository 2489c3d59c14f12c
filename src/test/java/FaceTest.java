import java.lang.management.ManagementFactory;
import java.lang.reflect.Constructor;
import java.lang.reflect.Field;
import java.lang.reflect.Method;
import java.lang.reflect.Modifier;
import java.util.Set;
import java.util.TreeSet;

/** The class has the document's face and no more, and its calls make no objects. */
public final class FaceTest {
    private static final Set<String> FACE = Set.of(
        "boolean push(int, long)", "boolean spread(int, long, int)", "boolean copy(int, int)",
        "boolean add(int, int, int)", "boolean take(int, int, int)", "boolean times(int, int, int)",
        "boolean divide(int, int, int, int)", "boolean root(int, int, int)", "boolean shift(int, int, int)",
        "boolean part(int, int, int, int)", "int compare(int, int)", "int bits(int)", "int word(int, int)",
        "int ones(int)", "int lowest(int)", "int rest(int, int)");

    public static void main(String[] args) {
        Due.is("class is public and final", Modifier.PUBLIC | Modifier.FINAL, WholeMill.class.getModifiers());
        methods();
        Constructor<?>[] made = WholeMill.class.getDeclaredConstructors();
        Due.is("constructors", 1, made.length);
        Due.is("parameters of the constructor", 0, made[0].getParameterCount());
        Due.is("constructor is public", Modifier.PUBLIC, made[0].getModifiers());
        for (Field field : WholeMill.class.getDeclaredFields()) {
            Due.done(field + " is private and final",
                Modifier.isPrivate(field.getModifiers()) && Modifier.isFinal(field.getModifiers()));
        }
        room();
        Due.finish();
    }

    private static void methods() {
        Set<String> open = new TreeSet<>();
        for (Method method : WholeMill.class.getDeclaredMethods()) {
            if (!Modifier.isPrivate(method.getModifiers())) {
                String types = java.util.Arrays.toString(method.getParameterTypes());
                open.add(method.getReturnType() + " " + method.getName() + "("
                    + types.substring(1, types.length() - 1) + ")");
            }
        }
        Due.done("the face is " + open, open.equals(FACE));
    }

    /** A run has room for 7.3 million elements: an object has some 39,000 ints, and calls must add nothing. */
    private static void room() {
        com.sun.management.ThreadMXBean threads = (com.sun.management.ThreadMXBean) ManagementFactory.getThreadMXBean();
        useAll(new WholeMill());
        long before = threads.getCurrentThreadAllocatedBytes();
        WholeMill mill = new WholeMill();
        long made = threads.getCurrentThreadAllocatedBytes();
        for (int i = 0; i < 20; i++) {
            useAll(mill);
        }
        long after = threads.getCurrentThreadAllocatedBytes();
        Due.done("a new object takes " + (made - before) + " bytes", made - before < 200000);
        Due.done("340 calls take " + (after - made) + " bytes", after - made < 20000);
    }

    private static void useAll(WholeMill mill) {
        mill.spread(0, -1, 1024);
        mill.root(1, 2, 0);
        mill.times(3, 1, 1);
        mill.divide(4, 5, 0, 1);
        mill.push(1, 77);
        mill.copy(6, 5);
        mill.add(7, 6, 5);
        mill.take(7, 7, 1);
        mill.shift(8, 1, 77);
        mill.shift(8, 8, -55);
        mill.part(9, 0, 1000, 20000);
        mill.compare(8, 9);
        mill.bits(9);
        mill.word(9, 5);
        mill.ones(9);
        mill.lowest(9);
        mill.rest(9, 1000);
    }
}
