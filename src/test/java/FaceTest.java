import java.lang.reflect.Constructor;
import java.lang.reflect.Executable;
import java.lang.reflect.Field;
import java.lang.reflect.Member;
import java.lang.reflect.Method;
import java.lang.reflect.Modifier;
import java.util.ArrayList;
import java.util.List;
import java.util.Set;
import java.util.TreeSet;

/** The public face, member by member as the document writes it, and promise 1: a new object. */
public final class FaceTest {
    static final List<String> MEMBERS = List.of(
            "public static final int NONE = -1;",
            "public TextParts();",
            "public int put(int unit) throws IllegalArgumentException, IllegalStateException;",
            "public int clear();",
            "public int about(int what) throws IllegalArgumentException;",
            "public int make() throws UnsupportedOperationException;",
            "public int length(int part) throws IllegalArgumentException;",
            "public int byteOf(int part, int i) throws IllegalArgumentException;",
            "public int take(int sender, int part) throws IllegalArgumentException;",
            "public int alter(int part, int i, int b) throws IllegalArgumentException;",
            "public int feed(long w, int n) throws IllegalArgumentException, IllegalStateException;",
            "public int read(int sender) throws IllegalArgumentException;",
            "public int unit(int i);",
            "public int heap(int i, int what) throws IllegalArgumentException;",
            "public int forget(int sender) throws IllegalArgumentException;");

    public static void main(String[] args) {
        theClass();
        for (String member : MEMBERS) {
            isThere(member);
        }
        nothingBeside();
        aNewObject();
        objectsAreApart();
        Check.finish("FaceTest");
    }

    static void theClass() {
        Check.due("public final", TextParts.class.getModifiers(), Modifier.PUBLIC | Modifier.FINAL);
        Check.dueText("without a package", TextParts.class.getName(), "TextParts");
        Check.dueText("of no other class", TextParts.class.getSuperclass().getName(), "java.lang.Object");
        Check.due("of no interface", TextParts.class.getInterfaces().length, 0);
    }

    /** A member as the document writes it, but for the names of parameters. */
    static void isThere(String member) {
        String due = member.replaceAll("(int|long) \\w+([,)])", "$1$2");
        Check.dueText(member, seenMembers().contains(due) ? "there" : "not there", "there");
    }

    static void nothingBeside() {
        Check.due("members that can be seen", seenMembers().size(), MEMBERS.size());
        Set<String> names = new TreeSet<>();
        for (Method m : TextParts.class.getDeclaredMethods()) {
            boolean isNew = names.add(m.getName());
            Check.dueText("methods of the name " + m.getName(), isNew ? "one" : "more", "one");
        }
        for (Class<?> inside : TextParts.class.getDeclaredClasses()) {
            int modifiers = inside.getModifiers();
            boolean hidden = !Modifier.isPublic(modifiers) && !Modifier.isProtected(modifiers);
            Check.dueText("class " + inside.getSimpleName(), hidden && Modifier.isStatic(modifiers) ? "hidden, static"
                    : "seen or not static", "hidden, static");
        }
    }

    /** All members that are not private, written as the document writes its own. */
    private static List<String> seenMembers() {
        List<String> seen = new ArrayList<>();
        for (Field f : TextParts.class.getDeclaredFields()) {
            if (isSeen(f)) {
                seen.add(Modifier.toString(f.getModifiers()) + " " + f.getType().getName() + " " + f.getName() + " = "
                        + TextParts.NONE + ";");
            }
        }
        for (Constructor<?> c : TextParts.class.getDeclaredConstructors()) {
            if (isSeen(c)) {
                seen.add(Modifier.toString(c.getModifiers()) + " " + written(c));
            }
        }
        for (Method m : TextParts.class.getDeclaredMethods()) {
            if (isSeen(m)) {
                seen.add(Modifier.toString(m.getModifiers()) + " " + m.getReturnType().getName() + " " + written(m));
            }
        }
        return seen;
    }

    private static boolean isSeen(Member member) {
        return !Modifier.isPrivate(member.getModifiers()) && !member.isSynthetic();
    }

    private static String written(Executable member) {
        String throwing = listed(member.getExceptionTypes());
        return member.getName() + "(" + listed(member.getParameterTypes()) + ")"
                + (throwing.isEmpty() ? "" : " throws " + throwing) + ";";
    }

    private static String listed(Class<?>[] types) {
        List<String> names = new ArrayList<>();
        for (Class<?> type : types) {
            names.add(type.getSimpleName());
        }
        return String.join(", ", names);
    }

    private static void aNewObject() {
        TextParts x = new TextParts();
        int[] about = {0, 1, 0, 0, 0, 0, 0, 0};
        for (int what = 0; what < about.length; what++) {
            Check.due("new: about(" + what + ")", x.about(what), about[what]);
        }
        Check.refused("new: length(0)", IllegalArgumentException.class, () -> x.length(0));
        Check.refused("new: byteOf(0, 0)", IllegalArgumentException.class, () -> x.byteOf(0, 0));
        Check.refused("new: take(0, 0)", IllegalArgumentException.class, () -> x.take(0, 0));
        Check.refused("new: alter(0, 0, 0)", IllegalArgumentException.class, () -> x.alter(0, 0, 0));
        Check.due("new: unit(0)", x.unit(0), -1);
        Check.due("new: heap(0, 0)", x.heap(0, 0), -1);
        Check.due("new: clear()", x.clear(), 0);
        Check.due("new: forget(0)", x.forget(0), 0);
        Check.due("new: read(0)", x.read(0), -1);
    }

    private static void objectsAreApart() {
        TextParts a = new TextParts();
        TextParts b = new TextParts();
        String before = Check.state(b);
        Check.putMany(a, 97, 200);
        a.make();
        a.take(1, 0);
        a.feed(5, 3);
        Check.dueText("another object", Check.state(b), before);
    }
}
