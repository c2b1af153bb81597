import java.lang.reflect.Field;
import java.lang.reflect.Method;
import java.util.ArrayList;
import java.util.Arrays;
import java.util.List;

/** What the tests share: comparing answers, and ways to fill an object. */
final class Check {
    interface Call {
        int answer();
    }

    private static int wrong = 0;
    private static int done = 0;
    private static String sentence = "";

    private Check() {
    }

    /** The test of one sentence of the document: what is not as due in it is told with the sentence. */
    static void sentence(String words, Runnable test) {
        sentence = "\"" + words + "\": ";
        try {
            test.run();
        } catch (RuntimeException e) {
            dueText("a call that may not throw, at " + placeOf(e), e.toString(), "no exception");
        }
        sentence = "";
    }

    /** The line of the test itself, which is the last one outside this class and the tested one. */
    private static String placeOf(RuntimeException e) {
        for (StackTraceElement at : e.getStackTrace()) {
            String name = at.getClassName();
            if (!name.equals("Check") && !name.startsWith("TextParts") && !name.startsWith("java.")) {
                return at.toString();
            }
        }
        return "an unknown place";
    }

    static void due(String what, long got, long want) {
        dueText(what, Long.toString(got), Long.toString(want));
    }

    static void dueText(String what, String got, String want) {
        done++;
        if (!got.equals(want)) {
            wrong++;
            System.out.println(sentence + what + " answered " + got + ", due is " + want);
        }
    }

    static void refused(String what, Class<? extends RuntimeException> want, Call call) {
        dueText(what, outcome(call), want.getSimpleName());
    }

    /** As refused, and that nothing that can be seen of the object has changed. */
    static void refusedUnchanged(String what, TextParts x, Class<? extends RuntimeException> want, Call call) {
        String before = state(x);
        refused(what, want, call);
        dueText(what + ", the state behind it", state(x), before);
    }

    static String outcome(Call call) {
        try {
            return Integer.toString(call.answer());
        } catch (RuntimeException e) {
            return e.getClass().getSimpleName();
        }
    }

    static void finish(String name) {
        System.out.println(name + ": " + done + " answers, " + wrong + " not as due");
        if (wrong != 0) {
            System.exit(1);
        }
    }

    /** All that the object tells without being changed. */
    static String state(TextParts x) {
        StringBuilder s = new StringBuilder("about");
        for (int what = 0; what < 8; what++) {
            s.append(' ').append(x.about(what));
        }
        for (int part = 0; part < x.about(4); part++) {
            s.append(" part ").append(bytes(x, part));
        }
        for (int i = 0; i < x.about(5); i++) {
            s.append(" heap ").append(heap(x, i));
        }
        return s.append(" latest ").append(latest(x)).toString();
    }

    static String bytes(TextParts x, int part) {
        List<Integer> all = new ArrayList<>();
        int length = x.length(part);
        for (int i = 0; i < length; i++) {
            all.add(x.byteOf(part, i));
        }
        return all.toString();
    }

    static String latest(TextParts x) {
        List<Integer> all = new ArrayList<>();
        // A unit() that is wrong might never answer NONE.
        for (int unit = x.unit(0); unit != TextParts.NONE && all.size() < 5000; unit = x.unit(all.size())) {
            all.add(unit);
        }
        return all.toString();
    }

    static String heap(TextParts x, int i) {
        return x.heap(i, 0) + "/" + x.heap(i, 1) + "/" + x.heap(i, 2) + "/" + x.heap(i, 3);
    }

    static void puts(TextParts x, int... units) {
        for (int unit : units) {
            x.put(unit);
        }
    }

    static void putMany(TextParts x, int unit, int times) {
        for (int k = 0; k < times; k++) {
            x.put(unit);
        }
    }

    /**
     * Makes the text longer than put() does, from within: what the document says of more than 255
     * parts lies beyond its 3000 units, and no run of calls comes there.
     */
    static void putManyWithin(TextParts x, int unit, int times) {
        try {
            Field textField = TextParts.class.getDeclaredField("text");
            textField.setAccessible(true);
            Object text = textField.get(x);
            Field units = text.getClass().getDeclaredField("units");
            units.setAccessible(true);
            units.set(text, Arrays.copyOf((int[]) units.get(text), x.about(2) + times));
            Method append = text.getClass().getDeclaredMethod("append", int.class);
            append.setAccessible(true);
            for (int k = 0; k < times; k++) {
                append.invoke(text, unit);
            }
        } catch (ReflectiveOperationException e) {
            throw new IllegalStateException("Check no longer knows how TextParts holds its text", e);
        }
    }

    /** As few calls as may be: eight bytes at a time. */
    static void feedAll(TextParts x, int... bytes) {
        for (int from = 0; from < bytes.length; from += 8) {
            int n = Math.min(8, bytes.length - from);
            long w = 0L;
            for (int k = 0; k < n; k++) {
                w |= (long) bytes[from + k] << (8 * k);
            }
            x.feed(w, n);
        }
    }

    static int readAll(TextParts x, int sender, int... bytes) {
        feedAll(x, bytes);
        return x.read(sender);
    }

    /** Reads a part by pairs, with a header, whose text is one unit. */
    static int readHeaded(TextParts x, int sender, int reference, int parts, int number, int unit) {
        return readAll(x, sender, 5, 8, 5, 0, 3, reference, parts, number, unit >> 8, unit & 255);
    }

    /** The bytes of sevens, packed bit by bit. */
    static int[] packed(int... sevens) {
        int[] bytes = new int[(7 * sevens.length + 7) / 8];
        for (int bit = 0; bit < 7 * sevens.length; bit++) {
            bytes[bit / 8] |= (sevens[bit / 7] >> (bit % 7) & 1) << (bit % 8);
        }
        return bytes;
    }

    /** A part of bytes that are all 0 behind the first two. */
    static int[] zeros(int first, int second, int following) {
        int[] part = new int[2 + following];
        part[0] = first;
        part[1] = second;
        return part;
    }

    static int[] joined(int[] front, int... rest) {
        int[] both = Arrays.copyOf(front, front.length + rest.length);
        System.arraycopy(rest, 0, both, front.length, rest.length);
        return both;
    }

    /** A header by pairs or by the alphabet, with no text; how many bytes or sevens there are comes first. */
    static int[] header(int first, int second, int reference, int parts, int number) {
        return new int[] {first, second, 5, 0, 3, reference, parts, number};
    }
}
