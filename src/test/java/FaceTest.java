import java.lang.reflect.Constructor;
import java.lang.reflect.Field;
import java.lang.reflect.Method;
import java.lang.reflect.Modifier;
import java.util.Arrays;
import java.util.Set;
import java.util.TreeSet;

/** The public face, and promise 1: a new object. */
public final class FaceTest {
    private static final Set<String> FACE = new TreeSet<>(Arrays.asList(
            "put(int)", "clear()", "about(int)", "make()", "length(int)", "byteOf(int,int)", "take(int,int)",
            "alter(int,int,int)", "feed(long,int)", "read(int)", "unit(int)", "heap(int,int)", "forget(int)"));

    public static void main(String[] args) {
        theFace();
        aNewObject();
        objectsAreApart();
        Check.finish("FaceTest");
    }

    private static void theFace() {
        Check.due("NONE", TextParts.NONE, -1);
        Check.due("public final", TextParts.class.getModifiers(), Modifier.PUBLIC | Modifier.FINAL);
        Set<String> found = new TreeSet<>();
        for (Method m : TextParts.class.getDeclaredMethods()) {
            if (!Modifier.isPrivate(m.getModifiers())) {
                found.add(m.getName() + Arrays.toString(m.getParameterTypes())
                        .replace('[', '(').replace(']', ')').replace(" ", ""));
                Check.dueText("the type of " + m.getName(), m.getReturnType().getName(), "int");
            }
        }
        Check.dueText("the methods that can be seen", found.toString(), FACE.toString());
        for (Field f : TextParts.class.getDeclaredFields()) {
            boolean seen = !Modifier.isPrivate(f.getModifiers());
            Check.due("field " + f.getName() + " can be seen", seen ? 1 : 0, f.getName().equals("NONE") ? 1 : 0);
        }
        Constructor<?>[] made = TextParts.class.getDeclaredConstructors();
        Check.due("constructors", made.length, 1);
        Check.due("parameters of the constructor", made[0].getParameterCount(), 0);
    }

    private static void aNewObject() {
        TextParts x = new TextParts();
        int[] about = {0, 1, 0, 0, 0, 0, 0, 0};
        for (int what = 0; what < about.length; what++) {
            Check.due("new: about(" + what + ")", x.about(what), about[what]);
        }
        Check.refused("new: length(0)", IllegalArgumentException.class, () -> x.length(0));
        Check.refused("new: byteOf(0, 0)", IllegalArgumentException.class, () -> x.byteOf(0, 0));
        Check.refused("new: take(0, 0)", IllegalArgumentException.class, () -> x.take(0, 0));
        Check.refused("new: alter(0, 0, 0)", IllegalArgumentException.class, () -> x.alter(0, 0, 0));
        Check.due("new: unit(0)", x.unit(0), -1);
        Check.due("new: heap(0, 0)", x.heap(0, 0), -1);
        Check.due("new: clear()", x.clear(), 0);
        Check.due("new: forget(0)", x.forget(0), 0);
        Check.due("new: read(0)", x.read(0), -1);
    }

    private static void objectsAreApart() {
        TextParts a = new TextParts();
        TextParts b = new TextParts();
        String before = Check.state(b);
        Check.putMany(a, 97, 200);
        a.make();
        a.take(1, 0);
        a.feed(5, 3);
        Check.dueText("another object", Check.state(b), before);
    }
}
