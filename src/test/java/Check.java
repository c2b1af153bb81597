import java.util.ArrayList;
import java.util.List;

/** What the tests share: comparing answers, and ways to fill an object. */
final class Check {
    interface Call {
        int answer();
    }

    private static int wrong = 0;
    private static int done = 0;

    private Check() {
    }

    static void due(String what, long got, long want) {
        done++;
        if (got != want) {
            wrong++;
            System.out.println(what + " answered " + got + ", due is " + want);
        }
    }

    static void dueText(String what, String got, String want) {
        done++;
        if (!got.equals(want)) {
            wrong++;
            System.out.println(what + " answered " + got + ", due is " + want);
        }
    }

    static void refused(String what, Class<? extends RuntimeException> want, Call call) {
        dueText(what, outcome(call), want.getSimpleName());
    }

    /** As refused, and that nothing that can be seen of the object has changed. */
    static void refusedUnchanged(String what, TextParts x, Class<? extends RuntimeException> want, Call call) {
        String before = state(x);
        refused(what, want, call);
        dueText(what + ", the state behind it", state(x), before);
    }

    static String outcome(Call call) {
        try {
            return Integer.toString(call.answer());
        } catch (RuntimeException e) {
            return e.getClass().getSimpleName();
        }
    }

    static void finish(String name) {
        System.out.println(name + ": " + done + " answers, " + wrong + " not as due");
        if (wrong != 0) {
            System.exit(1);
        }
    }

    /** All that the object tells without being changed. */
    static String state(TextParts x) {
        StringBuilder s = new StringBuilder("about");
        for (int what = 0; what < 8; what++) {
            s.append(' ').append(x.about(what));
        }
        for (int part = 0; part < x.about(4); part++) {
            s.append(" part ").append(bytes(x, part));
        }
        for (int i = 0; i < 16; i++) {
            s.append(" heap ").append(heap(x, i));
        }
        return s.append(" latest ").append(latest(x)).toString();
    }

    static String bytes(TextParts x, int part) {
        List<Integer> all = new ArrayList<>();
        for (int i = 0; i < x.length(part); i++) {
            all.add(x.byteOf(part, i));
        }
        return all.toString();
    }

    static String latest(TextParts x) {
        List<Integer> all = new ArrayList<>();
        for (int i = 0; x.unit(i) != TextParts.NONE; i++) {
            all.add(x.unit(i));
        }
        return all.toString();
    }

    static String heap(TextParts x, int i) {
        return x.heap(i, 0) + "/" + x.heap(i, 1) + "/" + x.heap(i, 2) + "/" + x.heap(i, 3);
    }

    static void puts(TextParts x, int... units) {
        for (int unit : units) {
            x.put(unit);
        }
    }

    static void putMany(TextParts x, int unit, int times) {
        for (int k = 0; k < times; k++) {
            x.put(unit);
        }
    }

    static void feedAll(TextParts x, int... bytes) {
        for (int b : bytes) {
            x.feed(b, 1);
        }
    }

    static int readAll(TextParts x, int sender, int... bytes) {
        feedAll(x, bytes);
        return x.read(sender);
    }

    /** Reads a part by pairs, with a header, whose text is one unit. */
    static int readHeaded(TextParts x, int sender, int reference, int parts, int number, int unit) {
        return readAll(x, sender, 5, 8, 5, 0, 3, reference, parts, number, unit >> 8, unit & 255);
    }
}
