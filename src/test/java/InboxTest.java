import java.util.Arrays;

/** Promises 8 and 10 to 14: take, feed, read, unit, heap, forget. */
public final class InboxTest {
    public static void main(String[] args) {
        take();
        takeAsItIs();
        feed();
        read();
        faultsOfTheFront();
        faultsOfHeaders();
        faultsOfContents();
        theFirstFaultThatFits();
        sevensReadBack();
        escapesReadBack();
        partsAreReadByThemselves();
        unit();
        partsInAnyOrder();
        heapsAreOfThree();
        partsThatAreThereAreDropped();
        heap();
        theHeapThatGivesWay();
        aHeapOfOnePart();
        forget();
        mixedParts();
        theLongestText();
        Check.finish("InboxTest");
    }

    private static void take() {
        TextParts x = new TextParts();
        Check.putMany(x, 97, 170);
        x.make();
        Check.due("take(0, 1)", x.take(0, 1), 0);
        Check.due("take(999, 1)", x.take(999, 1), 0);
        int[][] wrong = {{-1, 0}, {1000, 0}, {0, -1}, {0, 2}, {Integer.MIN_VALUE, 0}, {0, Integer.MAX_VALUE}};
        for (int[] row : wrong) {
            Check.refusedUnchanged("take(" + row[0] + ", " + row[1] + ")", x, IllegalArgumentException.class,
                    () -> x.take(row[0], row[1]));
        }
        Check.due("take(0, 0)", x.take(0, 0), 1);
        Check.due("units", x.about(6), 170);
        Check.due("the part stays made", x.about(4), 2);
        Check.due("the heap of sender 999 stays", x.about(5), 1);
    }

    private static void takeAsItIs() {
        TextParts x = new TextParts();
        Check.puts(x, 97, 98);
        x.make();
        x.alter(0, 2, 99);
        Check.due("take(3, 0)", x.take(3, 0), 1);
        Check.dueText("the text as altered", Check.latest(x), "[99, 98]");
        x.alter(0, 0, 3);
        String before = Check.state(x);
        Check.due("take(3, 0) of a fault", x.take(3, 0), -2);
        Check.dueText("a fault changes nothing", Check.state(x), before);
    }

    private static void feed() {
        TextParts x = new TextParts();
        Check.due("feed of none", x.feed(-1L, 0), 0);
        Check.due("feed of 8", x.feed(0x8887060504030604L, 8), 8);
        for (int wrong : new int[] {-1, 9, Integer.MIN_VALUE, Integer.MAX_VALUE}) {
            Check.refusedUnchanged("feed(0, " + wrong + ")", x, IllegalArgumentException.class,
                    () -> x.feed(0L, wrong));
        }
        Check.due("read(0)", x.read(0), 1);
        Check.dueText("the lowest byte was first", Check.latest(x), "[772, 1286, 34696]");
        // What is above n bytes is left out.
        Check.due("feed of 3", x.feed(0x7F7F7F7F7F030204L, 3), 3);
        Check.due("feed of 1 more", x.feed(0x7F7F7F7F7F7FFFL, 1), 4);
        Check.due("read(0)", x.read(0), 1);
        Check.dueText("the pair, the high one first", Check.latest(x), "[" + (3 * 256 + 255) + "]");
        for (int k = 0; k < 24; k++) {
            x.feed(0L, 8);
        }
        Check.due("feed up to 199", x.feed(0L, 7), 199);
        Check.refusedUnchanged("feed of 2 to 199", x, IllegalStateException.class, () -> x.feed(0L, 2));
        Check.due("feed of 1 to 199", x.feed(0L, 1), 200);
        Check.refusedUnchanged("feed of 1 to 200", x, IllegalStateException.class, () -> x.feed(0L, 1));
        Check.refused("feed of 9 to 200", IllegalArgumentException.class, () -> x.feed(0L, 9));
        Check.due("feed of none to 200", x.feed(0L, 0), 200);
        Check.due("read of 200", x.read(0), -3);
        Check.due("bytes at hand", x.about(7), 0);
    }

    private static void read() {
        TextParts x = new TextParts();
        Check.due("read(0) of none", x.read(0), -1);
        Check.feedAll(x, 4, 2, 1, 2);
        for (int wrong : new int[] {-1, 1000, Integer.MIN_VALUE, Integer.MAX_VALUE}) {
            Check.refusedUnchanged("read(" + wrong + ")", x, IllegalArgumentException.class, () -> x.read(wrong));
        }
        Check.due("read(999)", x.read(999), 1);
        Check.due("bytes at hand", x.about(7), 0);
        Check.due("unit(0)", x.unit(0), 258);
        Check.due("read of a fault", Check.readAll(x, 0, 2, 2), -2);
        Check.due("bytes at hand behind a fault", x.about(7), 0);
        Check.due("the latest text stays", x.unit(0), 258);
        Check.due("read of a part that is kept", Check.readHeaded(x, 4, 7, 2, 2, 500), 0);
        Check.due("bytes at hand", x.about(7), 0);
        Check.due("read of the other part", Check.readHeaded(x, 4, 7, 2, 1, 400), 1);
        Check.dueText("the text", Check.latest(x), "[400, 500]");
    }

    private static void faultsOfTheFront() {
        TextParts x = new TextParts();
        Check.due("one byte", Check.readAll(x, 0, 0), -1);
        Check.due("one byte that is wrong too", Check.readAll(x, 0, 9), -1);
        for (int first = 0; first < 256; first++) {
            int due = first == 0 || first == 4 ? 1 : first == 1 || first == 5 ? -4 : -2;
            Check.due("first byte " + first, Check.readAll(x, 0, first, 0), due);
        }
        for (int second = 0; second < 256; second++) {
            for (int bytes = 0; bytes <= 150; bytes++) {
                Check.due(second + " sevens in " + bytes + " bytes", readZeros(x, 0, second, bytes),
                        second <= 160 && bytes == (int) Math.ceil(second * 7 / 8.0) ? 1 : -3);
                Check.due(second + " by pairs in " + bytes + " bytes", readZeros(x, 4, second, bytes),
                        second > 140 || bytes != second ? -3 : second % 2 == 1 ? -5 : 1);
            }
        }
    }

    private static int readZeros(TextParts x, int first, int second, int bytes) {
        x.feed(first | second << 8, 2);
        for (int left = bytes; left > 0; left -= 8) {
            x.feed(0L, Math.min(8, left));
        }
        return x.read(0);
    }

    private static void faultsOfHeaders() {
        TextParts x = new TextParts();
        Check.due("a header alone, by pairs", Check.readAll(x, 0, 5, 6, 5, 0, 3, 0, 2, 1), 0);
        Check.due("a header alone, by sevens", Check.readAll(x, 0, 1, 7, 5, 0, 3, 0, 2, 2, 0), 1);
        Check.due("units of the text", x.about(6), 0);
        Check.due("5 bytes by pairs", Check.readAll(x, 0, 5, 5, 5, 0, 3, 0, 2), -4);
        Check.due("4 bytes by pairs", Check.readAll(x, 0, 5, 4, 5, 0, 3, 0), -4);
        Check.due("6 sevens", Check.readAll(x, 0, 1, 6, 5, 0, 3, 0, 2, 1), -4);
        Check.due("5 sevens", Check.readAll(x, 0, 1, 5, 5, 0, 3, 0, 2), -4);
        Check.due("first is 4", Check.readAll(x, 0, 5, 6, 4, 0, 3, 0, 2, 1), -4);
        Check.due("second is 1", Check.readAll(x, 0, 5, 6, 5, 1, 3, 0, 2, 1), -4);
        Check.due("third is 4", Check.readAll(x, 0, 5, 6, 5, 0, 4, 0, 2, 1), -4);
        Check.due("0 parts, part 0", Check.readAll(x, 0, 5, 6, 5, 0, 3, 0, 0, 0), -4);
        Check.due("0 parts, part 1", Check.readAll(x, 0, 5, 6, 5, 0, 3, 0, 0, 1), -4);
        Check.due("part 0", Check.readAll(x, 0, 5, 6, 5, 0, 3, 0, 2, 0), -4);
        Check.due("part 3 of 2", Check.readAll(x, 0, 5, 6, 5, 0, 3, 0, 2, 3), -4);
        Check.due("part 0, by sevens", Check.readAll(x, 0, 1, 7, 5, 0, 3, 0, 2, 0, 0), -4);
        Check.due("no fault left a heap", x.about(5), 0);
        Check.due("part 255 of 255, reference 255", Check.readAll(x, 0, 5, 6, 5, 0, 3, 255, 255, 255), 0);
        Check.dueText("its heap", Check.heap(x, 0), "0/255/255/1");
    }

    private static void faultsOfContents() {
        TextParts x = new TextParts();
        Check.due("odd bytes of text", Check.readAll(x, 0, 4, 3, 0, 97, 0), -5);
        Check.due("odd bytes of text behind a header", Check.readAll(x, 0, 5, 7, 5, 0, 3, 0, 2, 1, 0), -5);
        Check.due("the bit left of one seven", Check.readAll(x, 0, 0, 1, 128 + 97), -6);
        for (int bit = 0; bit < 8; bit++) {
            Check.due("bit " + bit + " of the last byte of 7", Check.readAll(x, 0, 0, 7, 0, 0, 0, 0, 0, 0, 1 << bit),
                    bit == 0 ? 1 : -6);
            Check.due("bit " + bit + " of the last byte of 8", Check.readAll(x, 0, 0, 8, 0, 0, 0, 0, 0, 0, 1 << bit), 1);
            Check.due("bit " + bit + " behind a header",
                    Check.readAll(x, 0, 1, 8, 5, 0, 3, 0, 2, 1, 1 << bit), bit == 0 ? -6 : 0);
            Check.due("bit " + bit + " behind a header alone",
                    Check.readAll(x, 0, 1, 7, 5, 0, 3, 9, 2, 1, 1 << bit), -6);
        }
        Check.due("bits are never left by pairs", Check.readAll(x, 0, 4, 2, 255, 255), 1);
    }

    private static void theFirstFaultThatFits() {
        TextParts x = new TextParts();
        Check.due("2 before 3", Check.readAll(x, 0, 6, 200), -2);
        Check.due("3 before 4", Check.readAll(x, 0, 5, 3, 1), -3);
        Check.due("3 before 6", Check.readAll(x, 0, 0, 1, 255, 255), -3);
        Check.due("4 before 5", Check.readAll(x, 0, 5, 7, 5, 0, 4, 0, 2, 1, 0), -4);
        Check.due("4 before 6", Check.readAll(x, 0, 1, 7, 5, 0, 3, 0, 2, 3, 255), -4);
    }

    private static void sevensReadBack() {
        int[] units = new int[128];
        Arrays.fill(units, 63);
        for (int n = 32; n <= 122; n++) {
            if (n != 36 && n != 64 && (n <= 90 || n >= 97)) {
                units[n] = n;
            }
        }
        int[][] other = {{2, 36}, {0, 64}, {17, 95}, {1, 163}, {3, 165}, {4, 232}, {5, 233}, {95, 167},
            {123, 228}, {124, 246}, {126, 252}, {27, 32}, {10, 10}, {13, 13}};
        for (int[] row : other) {
            units[row[0]] = row[1];
        }
        TextParts x = new TextParts();
        for (int seven = 0; seven < 128; seven++) {
            Check.due("read of seven " + seven, Check.readAll(x, 0, 0, 1, seven), 1);
            Check.dueText("seven " + seven, Check.latest(x), "[" + units[seven] + "]");
        }
    }

    private static int readSevens(TextParts x, int... sevens) {
        long packed = 0L;
        for (int k = 0; k < sevens.length; k++) {
            packed |= (long) sevens[k] << (7 * k);
        }
        x.feed((long) sevens.length << 8, 2);
        x.feed(packed, (7 * sevens.length + 7) / 8);
        return x.read(0);
    }

    private static void escapesReadBack() {
        int[][] escaped = {{20, 94}, {40, 123}, {41, 125}, {47, 92}, {60, 91}, {61, 126}, {62, 93}, {64, 124}, {101, 8364}};
        TextParts x = new TextParts();
        for (int[] row : escaped) {
            readSevens(x, 27, row[0], 65);
            Check.dueText("escape and " + row[0], Check.latest(x), "[" + row[1] + ", 65]");
        }
        readSevens(x, 27, 65, 66);
        Check.dueText("an escape before what has none", Check.latest(x), "[65, 66]");
        readSevens(x, 27, 2, 66);
        Check.dueText("an escape before 2", Check.latest(x), "[36, 66]");
        readSevens(x, 27, 36, 66);
        Check.dueText("an escape before what is nothing", Check.latest(x), "[63, 66]");
        readSevens(x, 65, 27);
        Check.dueText("an escape at the end", Check.latest(x), "[65, 32]");
        readSevens(x, 27, 27, 40);
        Check.dueText("an escape before an escape", Check.latest(x), "[63, 40]");
        readSevens(x, 27, 27);
        Check.dueText("two escapes at the end", Check.latest(x), "[63]");
        readSevens(x, 27, 40, 27, 101, 27, 27, 27);
        Check.dueText("escapes in a row", Check.latest(x), "[123, 8364, 63, 32]");
    }

    private static void partsAreReadByThemselves() {
        TextParts x = new TextParts();
        Check.due("an escape ends part 1", Check.readAll(x, 0, 1, 8, 5, 0, 3, 0, 2, 1, 27 << 1), 0);
        Check.due("part 2 goes on", Check.readAll(x, 0, 1, 8, 5, 0, 3, 0, 2, 2, 40 << 1), 1);
        Check.dueText("the text", Check.latest(x), "[32, 40]");
    }

    private static void unit() {
        TextParts x = new TextParts();
        Check.due("unit(0) without a text", x.unit(0), -1);
        Check.readAll(x, 0, 4, 4, 0, 97, 255, 255);
        Check.due("unit(0)", x.unit(0), 97);
        Check.due("unit(1)", x.unit(1), 65535);
        Check.due("unit(2)", x.unit(2), -1);
        Check.due("unit(-1)", x.unit(-1), -1);
        Check.due("unit(highest)", x.unit(Integer.MAX_VALUE), -1);
        Check.due("unit(lowest)", x.unit(Integer.MIN_VALUE), -1);
        Check.readAll(x, 0, 4, 2, 0, 98);
        Check.dueText("a later text, which is shorter", Check.latest(x), "[98]");
        Check.readHeaded(x, 0, 0, 2, 1, 5);
        Check.dueText("a part that is kept is no text", Check.latest(x), "[98]");
        Check.readAll(x, 0, 0, 0);
        Check.due("units of a text of none", x.about(6), 0);
        Check.due("unit(0) of a text of none", x.unit(0), -1);
    }

    private static void partsInAnyOrder() {
        int[][] orders = {{1, 2, 3}, {1, 3, 2}, {2, 1, 3}, {2, 3, 1}, {3, 1, 2}, {3, 2, 1}};
        for (int[] order : orders) {
            TextParts x = new TextParts();
            Check.due("first", Check.readHeaded(x, 5, 6, 3, order[0], 100 * order[0]), 0);
            Check.due("second", Check.readHeaded(x, 5, 6, 3, order[1], 100 * order[1]), 0);
            Check.due("units so far", x.about(6), 0);
            Check.due("third", Check.readHeaded(x, 5, 6, 3, order[2], 100 * order[2]), 1);
            Check.dueText("the text", Check.latest(x), "[100, 200, 300]");
            Check.due("the heap is gone", x.about(5), 0);
        }
    }

    private static void heapsAreOfThree() {
        TextParts x = new TextParts();
        Check.readHeaded(x, 5, 6, 2, 1, 1);
        Check.due("another sender", Check.readHeaded(x, 6, 6, 2, 2, 2), 0);
        Check.due("another reference", Check.readHeaded(x, 5, 7, 2, 2, 3), 0);
        Check.due("another number of parts", Check.readHeaded(x, 5, 6, 3, 2, 4), 0);
        Check.due("heaps", x.about(5), 4);
        Check.due("the same three", Check.readHeaded(x, 5, 6, 2, 2, 5), 1);
        Check.dueText("the text", Check.latest(x), "[1, 5]");
        Check.due("heaps", x.about(5), 3);
        Check.due("a heap that was gone begins anew", Check.readHeaded(x, 5, 6, 2, 2, 5), 0);
        Check.dueText("it comes last", Check.heap(x, 3), "5/6/2/1");
    }

    private static void partsThatAreThereAreDropped() {
        TextParts x = new TextParts();
        Check.readHeaded(x, 5, 6, 2, 1, 1);
        Check.due("the same part with another text", Check.readHeaded(x, 5, 6, 2, 1, 2), 0);
        Check.dueText("the heap", Check.heap(x, 0), "5/6/2/1");
        Check.due("the other part", Check.readHeaded(x, 5, 6, 2, 2, 3), 1);
        Check.dueText("the text has the first one", Check.latest(x), "[1, 3]");
    }

    private static void heap() {
        TextParts x = new TextParts();
        Check.readHeaded(x, 999, 255, 3, 2, 1);
        Check.readHeaded(x, 0, 1, 255, 7, 1);
        Check.readHeaded(x, 0, 1, 255, 9, 1);
        Check.readHeaded(x, 3, 2, 2, 1, 1);
        Check.readHeaded(x, 999, 255, 3, 1, 1);
        Check.dueText("heap 0", Check.heap(x, 0), "999/255/3/2");
        Check.dueText("heap 1", Check.heap(x, 1), "0/1/255/2");
        Check.dueText("heap 2", Check.heap(x, 2), "3/2/2/1");
        for (int none : new int[] {3, 15, 16, -1, Integer.MIN_VALUE, Integer.MAX_VALUE}) {
            Check.dueText("heap " + none, Check.heap(x, none), "-1/-1/-1/-1");
        }
        for (int wrong : new int[] {-1, 4, Integer.MIN_VALUE, Integer.MAX_VALUE}) {
            Check.refusedUnchanged("heap(0, " + wrong + ")", x, IllegalArgumentException.class, () -> x.heap(0, wrong));
            Check.refused("heap(16, " + wrong + ")", IllegalArgumentException.class, () -> x.heap(16, wrong));
        }
        Check.readHeaded(x, 0, 1, 255, 9, 1);
        Check.readHeaded(x, 999, 255, 3, 3, 1);
        Check.dueText("heap 0 when one before it is gone", Check.heap(x, 0), "0/1/255/2");
        Check.dueText("heap 1", Check.heap(x, 1), "3/2/2/1");
        Check.dueText("heap 2", Check.heap(x, 2), "-1/-1/-1/-1");
    }

    private static TextParts withSixteenHeaps() {
        TextParts x = new TextParts();
        for (int sender = 0; sender < 16; sender++) {
            Check.readHeaded(x, sender, 0, 3, 1, 1);
        }
        return x;
    }

    private static void theHeapThatGivesWay() {
        TextParts x = withSixteenHeaps();
        Check.due("heaps", x.about(5), 16);
        Check.readHeaded(x, 0, 0, 3, 2, 1);
        Check.readHeaded(x, 1, 0, 3, 1, 1);
        Check.readAll(x, 1, 5, 7, 5, 0, 3, 0, 3, 2, 1);
        Check.due("a part for a seventeenth", Check.readHeaded(x, 16, 0, 3, 1, 1), 0);
        Check.due("heaps", x.about(5), 16);
        Check.dueText("sender 0 was put to, dropped and wrong parts don't count", Check.heap(x, 0), "0/0/3/2");
        Check.dueText("sender 1 gave way", Check.heap(x, 1), "2/0/3/1");
        Check.dueText("the new one is last", Check.heap(x, 15), "16/0/3/1");
        Check.readHeaded(x, 17, 0, 3, 1, 1);
        Check.dueText("then sender 2", Check.heap(x, 1), "3/0/3/1");
        Check.readHeaded(x, 5, 0, 3, 2, 1);
        Check.due("no heap gives way when one is done", Check.readHeaded(x, 5, 0, 3, 3, 1), 1);
        Check.due("heaps", x.about(5), 15);
        Check.readHeaded(x, 18, 0, 3, 1, 1);
        Check.dueText("nor when there is room", Check.heap(x, 1), "3/0/3/1");
        Check.due("what gave way is lost", Check.readHeaded(x, 1, 0, 3, 3, 1), 0);
        Check.dueText("its sender has a new heap", Check.heap(x, 15), "1/0/3/1");
        Check.dueText("in place of sender 3", Check.heap(x, 1), "4/0/3/1");
    }

    private static void aHeapOfOnePart() {
        TextParts x = new TextParts();
        Check.due("one part with a header", Check.readHeaded(x, 0, 9, 1, 1, 77), 1);
        Check.dueText("the text", Check.latest(x), "[77]");
        Check.due("heaps", x.about(5), 0);
        TextParts y = withSixteenHeaps();
        Check.due("a part without a header", Check.readAll(y, 20, 4, 2, 0, 98), 1);
        Check.due("it needs no heap", y.about(5), 16);
        // It begins a heap as any part with a header does, so one gives way before it is done.
        Check.due("one part with a header", Check.readHeaded(y, 20, 9, 1, 1, 77), 1);
        Check.due("heaps", y.about(5), 15);
        Check.dueText("heap 0", Check.heap(y, 0), "1/0/3/1");
    }

    private static void forget() {
        TextParts x = new TextParts();
        Check.readHeaded(x, 4, 0, 2, 1, 1);
        Check.readHeaded(x, 5, 0, 2, 1, 1);
        Check.readHeaded(x, 4, 1, 2, 1, 1);
        Check.readHeaded(x, 4, 0, 3, 1, 1);
        Check.readHeaded(x, 0, 0, 3, 1, 1);
        Check.readAll(x, 4, 4, 2, 0, 98);
        for (int wrong : new int[] {-1, 1000, Integer.MIN_VALUE, Integer.MAX_VALUE}) {
            Check.refusedUnchanged("forget(" + wrong + ")", x, IllegalArgumentException.class, () -> x.forget(wrong));
        }
        Check.due("forget of none", x.forget(999), 0);
        Check.due("forget(4)", x.forget(4), 3);
        Check.due("forget(4) again", x.forget(4), 0);
        Check.dueText("heap 0", Check.heap(x, 0), "5/0/2/1");
        Check.dueText("heap 1", Check.heap(x, 1), "0/0/3/1");
        Check.due("heaps", x.about(5), 2);
        Check.dueText("the latest text stays", Check.latest(x), "[98]");
        Check.due("a part of a heap that is forgotten", Check.readHeaded(x, 4, 0, 2, 2, 1), 0);
        TextParts y = new TextParts();
        for (int k = 0; k < 16; k++) {
            Check.readHeaded(y, 4, k, 2, 1, 1);
        }
        Check.due("forget of all 16", y.forget(4), 16);
        Check.due("heaps", y.about(5), 0);
    }

    private static void mixedParts() {
        TextParts x = new TextParts();
        Check.due("part 2 by sevens", Check.readAll(x, 0, 1, 8, 5, 0, 3, 0, 2, 2, 97 << 1), 0);
        Check.due("part 1 by pairs", Check.readHeaded(x, 0, 0, 2, 1, 1000), 1);
        Check.dueText("the text", Check.latest(x), "[1000, 97]");
        Check.putMany(x, 1000, 71);
        x.make();
        x.take(0, 0);
        x.clear();
        x.make();
        Check.due("what is kept does not change with the parts made", x.about(5), 1);
        Check.due("part 2 of it", Check.readHeaded(x, 0, 0, 2, 2, 1001), 1);
        Check.due("units", x.about(6), 68);
        Check.due("unit(66)", x.unit(66), 1000);
        Check.due("unit(67)", x.unit(67), 1001);
    }

    private static void theLongestText() {
        TextParts x = new TextParts();
        Check.putMany(x, 122, 306);
        x.make();
        x.alter(0, 6, 255);
        for (int number = 255; number > 1; number--) {
            x.alter(0, 7, number);
            Check.due("part " + number, x.take(8, 0), 0);
        }
        x.alter(0, 7, 1);
        Check.due("part 1", x.take(8, 0), 1);
        Check.due("units", x.about(6), 255 * 153);
        Check.due("the last unit", x.unit(255 * 153 - 1), 122);
        Check.due("behind it", x.unit(255 * 153), -1);
    }
}
