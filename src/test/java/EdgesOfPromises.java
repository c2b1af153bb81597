/**
 * The boundary cases that the document names in its promises: each sentence has tests of its own, on both
 * sides of its edge. No object here has more than the 512 calls for which the document speaks, but for the
 * 3000 units of promise 2, which no fewer calls can put.
 */
final class EdgesOfPromises {
    private static final Class<IllegalArgumentException> ARGUMENT = IllegalArgumentException.class;
    private static final Class<IllegalStateException> STATE = IllegalStateException.class;
    private static final int LOWEST = Integer.MIN_VALUE;
    private static final int HIGHEST = Integer.MAX_VALUE;

    private EdgesOfPromises() {
    }

    private static TextParts withUnits(int unit, int times) {
        TextParts x = new TextParts();
        Check.putMany(x, unit, times);
        return x;
    }

    /** Two parts made, of 142 and 16 bytes. */
    private static TextParts withTwoParts() {
        TextParts x = withUnits(1000, 71);
        x.make();
        return x;
    }

    /** One part made, where before there were two. */
    private static TextParts withOnePartLess() {
        TextParts x = withTwoParts();
        x.clear();
        x.make();
        return x;
    }

    static void newObject() {
        TextParts x = new TextParts();
        Check.dueText("all that a new object tells", Check.state(x), "about 0 1 0 0 0 0 0 0 latest []");
        Check.refused("length(0)", ARGUMENT, () -> x.length(0));
        Check.due("heap(0, 0)", x.heap(0, 0), -1);
        Check.due("clear()", x.clear(), 0);
        Check.due("forget(0)", x.forget(0), 0);
        Check.putMany(x, 1000, 71);
        x.make();
        Check.due("the reference of the first message in parts", x.byteOf(0, 5), 0);
    }

    static void putOfWhatIsNoUnit() {
        TextParts x = new TextParts();
        for (int wrong : new int[] {-1, 65536, LOWEST, HIGHEST}) {
            Check.refused("put(" + wrong + ")", ARGUMENT, () -> x.put(wrong));
        }
        Check.due("put(0)", x.put(0), 1);
        Check.due("put(65535)", x.put(65535), 2);
        x.make();
        Check.dueText("their part", Check.bytes(x, 0), "[4, 4, 0, 0, 255, 255]");
    }

    static void putToFull() {
        TextParts x = withUnits(97, 2998);
        Check.due("unit number 2999", x.put(97), 2999);
        Check.due("unit number 3000", x.put(97), 3000);
        Check.refused("one more", STATE, () -> x.put(97));
        Check.refused("one more that is no unit", ARGUMENT, () -> x.put(65536));
        Check.due("units", x.about(2), 3000);
        Check.due("clear()", x.clear(), 3000);
        Check.due("put(97) behind it", x.put(97), 1);
    }

    static void clear() {
        TextParts x = new TextParts();
        Check.due("clear() of an empty text", x.clear(), 0);
        x.put(97);
        Check.due("clear() of one unit", x.clear(), 1);
        Check.due("clear() again", x.clear(), 0);
        Check.puts(x, 97, 1000, 8364);
        Check.due("clear() of three", x.clear(), 3);
        Check.due("sevens", x.about(0), 0);
        Check.due("parts", x.about(1), 1);
        Check.due("units", x.about(2), 0);
        Check.due("put(98)", x.put(98), 1);
        x.make();
        Check.dueText("nothing from before is left", Check.bytes(x, 0), "[0, 1, 98]");
    }

    static void aboutSevens() {
        TextParts x = new TextParts();
        Check.due("about(0) of no text", x.about(0), 0);
        Check.puts(x, 97, 8364);
        Check.due("about(0) of one seven and an escape", x.about(0), 3);
        x.put(96);
        Check.due("about(0) with the last one not in it", x.about(0), -1);
        x.put(97);
        Check.due("about(0) with one before the last not in it", x.about(0), -1);
        TextParts y = new TextParts();
        Check.puts(y, 0, 97);
        Check.due("about(0) with the first one not in it", y.about(0), -1);
        sevensDue(1, 10, 13, 32, 33, 35, 36, 37, 63, 64, 65, 90, 95, 97, 122, 163, 165, 167, 228, 232, 233, 246, 252);
        sevensDue(2, 91, 92, 93, 94, 123, 124, 125, 126, 8364);
        sevensDue(-1, 0, 9, 11, 12, 14, 27, 31, 96, 127, 128, 162, 164, 166, 168, 227, 229, 231, 234, 245, 247, 251,
                253, 8363, 8365, 65535);
    }

    private static void sevensDue(int sevens, int... units) {
        for (int unit : units) {
            Check.due("about(0) of unit " + unit, withUnits(unit, 1).about(0), sevens);
        }
    }

    static void aboutParts() {
        Check.due("about(1) of no text", new TextParts().about(1), 1);
        Check.due("about(1) of 160 sevens", withUnits(97, 160).about(1), 1);
        Check.due("about(1) of 161 sevens", withUnits(97, 161).about(1), 2);
        TextParts x = new TextParts();
        Check.putManyWithin(x, 97, 255 * 153);
        Check.due("about(1) of 255", x.about(1), 255);
        Check.putManyWithin(x, 97, 1);
        Check.due("about(1) of 256", x.about(1), 0);
        Check.putManyWithin(x, 97, 153 * 300);
        Check.due("about(1) of far more", x.about(1), 0);
    }

    static void aboutWhat() {
        TextParts x = withTwoParts();
        x.take(1, 0);
        Check.readAll(x, 2, 4, 6, 0, 1, 0, 2, 0, 3);
        x.feed(0L, 5);
        x.clear();
        Check.puts(x, 91, 97, 97, 97);
        int[] due = {5, 1, 4, 1, 2, 1, 3, 5};
        for (int what = 0; what < due.length; what++) {
            Check.due("about(" + what + ")", x.about(what), due[what]);
        }
        for (int wrong : new int[] {-1, 8, LOWEST, HIGHEST}) {
            Check.refused("about(" + wrong + ")", ARGUMENT, () -> x.about(wrong));
        }
    }

    static void makeOfNoText() {
        TextParts x = new TextParts();
        Check.due("make()", x.make(), 1);
        Check.due("parts made", x.about(4), 1);
        Check.dueText("its part", Check.bytes(x, 0), "[0, 0]");
        Check.due("the next reference", x.about(3), 0);
        Check.due("take(0, 0)", x.take(0, 0), 1);
        Check.due("units of the text", x.about(6), 0);
        x.put(97);
        Check.due("make() of one unit", x.make(), 1);
        Check.dueText("its part", Check.bytes(x, 0), "[0, 1, 97]");
    }

    static void makeInPlace() {
        TextParts x = withUnits(252, 320);
        Check.due("make()", x.make(), 3);
        x.clear();
        Check.puts(x, 64, 64);
        Check.due("parts made before make()", x.about(4), 3);
        Check.due("make()", x.make(), 1);
        Check.due("parts made", x.about(4), 1);
        Check.dueText("the part", Check.bytes(x, 0), "[0, 2, 0, 0]");
        Check.refused("length(1)", ARGUMENT, () -> x.length(1));
        Check.refused("byteOf(2, 0)", ARGUMENT, () -> x.byteOf(2, 0));
        x.alter(0, 2, 5);
        Check.due("make() again", x.make(), 1);
        Check.due("what was altered is gone", x.byteOf(0, 2), 0);
        x.clear();
        Check.due("make() of none", x.make(), 1);
        Check.due("length(0)", x.length(0), 2);
        Check.due("byteOf(0, 2)", x.byteOf(0, 2), -1);
    }

    static void makeUsesAReference() {
        TextParts x = withUnits(97, 160);
        x.make();
        Check.due("the next reference behind 160 sevens", x.about(3), 0);
        x.put(97);
        Check.due("about(1) uses none", x.about(1), 2);
        Check.due("the next reference", x.about(3), 0);
        x.make();
        Check.due("the next reference behind 161 sevens", x.about(3), 1);
        x.make();
        Check.due("of the same text again", x.about(3), 2);
        Check.due("the one that was used", x.byteOf(0, 5), 1);
        TextParts y = withUnits(1000, 70);
        y.make();
        Check.due("the next reference behind 70 pairs", y.about(3), 0);
        y.put(1000);
        y.make();
        Check.due("the next reference behind 71 pairs", y.about(3), 1);
    }

    static void makeOfMoreThan255() {
        TextParts x = new TextParts();
        Check.putManyWithin(x, 1000, 255 * 67);
        Check.due("make() of 255", x.make(), 255);
        Check.putManyWithin(x, 1000, 1);
        Check.refused("make() of 256", UnsupportedOperationException.class, x::make);
        Check.due("parts made", x.about(4), 255);
        Check.due("the next reference", x.about(3), 1);
        x.clear();
        Check.due("make() of none behind it", x.make(), 1);
    }

    static void lengthFromZeroOn() {
        TextParts x = new TextParts();
        Check.refused("length(0) of none", ARGUMENT, () -> x.length(0));
        x.make();
        Check.due("length(0) of no text", x.length(0), 2);
        Check.refused("length(1) of one", ARGUMENT, () -> x.length(1));
        TextParts y = withTwoParts();
        Check.due("length(0)", y.length(0), 142);
        Check.due("length(1)", y.length(1), 16);
        for (int wrong : new int[] {-1, 2, 255, 256, LOWEST, HIGHEST}) {
            Check.refused("length(" + wrong + ")", ARGUMENT, () -> y.length(wrong));
        }
        TextParts less = withOnePartLess();
        Check.refused("length(1) of a part of the message before", ARGUMENT, () -> less.length(1));
        int[][] due = {{159, 142}, {160, 142}, {152, 135}, {153, 136}, {8, 9}, {7, 9}, {1, 3}};
        for (int[] row : due) {
            TextParts z = withUnits(97, row[0]);
            z.make();
            Check.due("length(0) of " + row[0] + " sevens", z.length(0), row[1]);
        }
    }

    static void byteOfBehind() {
        TextParts x = withTwoParts();
        Check.due("byteOf(0, 0)", x.byteOf(0, 0), 5);
        Check.due("byteOf(0, 141)", x.byteOf(0, 141), 232);
        Check.due("byteOf(0, 142)", x.byteOf(0, 142), -1);
        Check.due("byteOf(1, 15)", x.byteOf(1, 15), 232);
        Check.due("byteOf(1, 16)", x.byteOf(1, 16), -1);
        Check.due("byteOf(1, 17)", x.byteOf(1, 17), -1);
        Check.due("byteOf(1, 141)", x.byteOf(1, 141), -1);
        Check.due("byteOf(1, highest)", x.byteOf(1, HIGHEST), -1);
        // The exception is for parts alone, so what lies before a part is NONE as well.
        Check.due("byteOf(1, -1)", x.byteOf(1, -1), -1);
        Check.due("byteOf(1, lowest)", x.byteOf(1, LOWEST), -1);
    }

    static void byteOfNoPart() {
        TextParts x = new TextParts();
        Check.refused("byteOf(0, 0) of none", ARGUMENT, () -> x.byteOf(0, 0));
        TextParts y = withTwoParts();
        Check.due("byteOf(1, 0)", y.byteOf(1, 0), 5);
        for (int wrong : new int[] {-1, 2, 255, 256, LOWEST, HIGHEST}) {
            Check.refused("byteOf(" + wrong + ", 0)", ARGUMENT, () -> y.byteOf(wrong, 0));
            Check.refused("byteOf(" + wrong + ", 200)", ARGUMENT, () -> y.byteOf(wrong, 200));
        }
        TextParts less = withOnePartLess();
        Check.refused("byteOf(1, 0) of a part of the message before", ARGUMENT, () -> less.byteOf(1, 0));
    }

    static void takeAnswers() {
        TextParts x = withTwoParts();
        Check.due("kept", x.take(1, 1), 0);
        Check.due("units of the latest text", x.about(6), 0);
        Check.due("dropped", x.take(1, 1), 0);
        Check.due("how many are there", x.heap(0, 3), 1);
        Check.due("of another sender", x.take(2, 0), 0);
        Check.due("done", x.take(1, 0), 1);
        Check.due("units of the latest text", x.about(6), 71);
        Check.due("heaps", x.about(5), 1);
        x.clear();
        x.make();
        Check.due("done at once", x.take(1, 0), 1);
        Check.due("units of the latest text", x.about(6), 0);
    }

    static void takeFaults() {
        // Place, byte and fault; the part is one by pairs, with a header. None made has less than two bytes.
        int[][] pairs = {{0, 2, -2}, {1, 141, -3}, {1, 139, -3}, {2, 4, -4}, {6, 0, -4}, {7, 3, -4}, {7, 2, 0}};
        for (int[] row : pairs) {
            TextParts x = withTwoParts();
            x.alter(0, row[0], row[1]);
            Check.due("take(0, 0) with byte " + row[0] + " being " + row[1], x.take(0, 0), row[2]);
        }
        // Three sevens in three bytes: three bits are left, and by pairs three bytes are odd.
        int[][] sevens = {{0, 4, -5}, {4, 32, -6}, {4, 31, 1}, {0, 1, -4}, {1, 4, -3}, {1, 2, -3}, {0, 255, -2}};
        for (int[] row : sevens) {
            TextParts x = withUnits(97, 3);
            x.make();
            x.alter(0, row[0], row[1]);
            Check.due("take(0, 0) of sevens with byte " + row[0] + " being " + row[1], x.take(0, 0), row[2]);
            Check.due("heaps", x.about(5), 0);
            Check.due("units of the latest text", x.about(6), row[2] == 1 ? 3 : 0);
        }
    }

    static void takeOfNoSender() {
        TextParts x = withTwoParts();
        for (int wrong : new int[] {-1, 1000, LOWEST, HIGHEST}) {
            Check.refused("take(" + wrong + ", 0)", ARGUMENT, () -> x.take(wrong, 0));
        }
        Check.due("heaps", x.about(5), 0);
        Check.due("take(0, 0)", x.take(0, 0), 0);
        Check.due("take(999, 0)", x.take(999, 0), 0);
        Check.dueText("heap 1", Check.heap(x, 1), "999/0/2/1");
    }

    static void takeOfNoPart() {
        TextParts x = new TextParts();
        Check.refused("take(0, 0) of none", ARGUMENT, () -> x.take(0, 0));
        TextParts y = withTwoParts();
        for (int wrong : new int[] {-1, 2, 255, 256, LOWEST, HIGHEST}) {
            Check.refused("take(0, " + wrong + ")", ARGUMENT, () -> y.take(0, wrong));
        }
        Check.due("heaps", y.about(5), 0);
        TextParts less = withOnePartLess();
        Check.refused("take(0, 1) of a part of the message before", ARGUMENT, () -> less.take(0, 1));
        Check.due("take(0, 1)", y.take(0, 1), 0);
        Check.due("take(0, 0)", y.take(0, 0), 1);
    }

    static void alterOfNoPartOrByte() {
        TextParts none = new TextParts();
        Check.refused("alter(0, 0, 0) of none", ARGUMENT, () -> none.alter(0, 0, 0));
        TextParts x = withTwoParts();
        for (int wrong : new int[] {-1, 2, 255, 256, LOWEST, HIGHEST}) {
            Check.refused("alter(" + wrong + ", 0, 0)", ARGUMENT, () -> x.alter(wrong, 0, 0));
        }
        for (int wrong : new int[] {-1, 16, 17, 141, 142, LOWEST, HIGHEST}) {
            Check.refused("alter(1, " + wrong + ", 0)", ARGUMENT, () -> x.alter(1, wrong, 0));
        }
        Check.refused("alter(0, 142, 0)", ARGUMENT, () -> x.alter(0, 142, 0));
        TextParts less = withOnePartLess();
        Check.refused("alter(1, 0, 0) of a part of the message before", ARGUMENT, () -> less.alter(1, 0, 0));
        Check.refused("alter(0, 2, 0) of a byte of the message before", ARGUMENT, () -> less.alter(0, 2, 0));
        Check.due("alter(0, 0, 1)", x.alter(0, 0, 1), 5);
        Check.due("alter(0, 141, 2)", x.alter(0, 141, 2), 232);
        Check.due("alter(1, 15, 3)", x.alter(1, 15, 3), 232);
        Check.due("byteOf(0, 0)", x.byteOf(0, 0), 1);
        Check.due("byteOf(0, 141)", x.byteOf(0, 141), 2);
        Check.due("byteOf(1, 15)", x.byteOf(1, 15), 3);
        Check.due("length(1)", x.length(1), 16);
    }

    static void alterToNoByte() {
        TextParts x = withUnits(97, 1);
        x.make();
        for (int wrong : new int[] {-1, 256, LOWEST, HIGHEST}) {
            Check.refused("alter(0, 2, " + wrong + ")", ARGUMENT, () -> x.alter(0, 2, wrong));
        }
        Check.due("alter(0, 2, 255)", x.alter(0, 2, 255), 97);
        Check.due("alter(0, 2, 0)", x.alter(0, 2, 0), 255);
        Check.due("byteOf(0, 2)", x.byteOf(0, 2), 0);
    }

    static void feedOfNone() {
        TextParts x = new TextParts();
        Check.due("feed(-1, 0)", x.feed(-1L, 0), 0);
        Check.due("bytes at hand", x.about(7), 0);
        Check.due("feed(4, 1)", x.feed(4L, 1), 1);
        Check.due("feed(-1, 0)", x.feed(-1L, 0), 1);
        Check.due("feed(0, 1)", x.feed(0L, 1), 2);
        Check.due("none came between", x.read(0), 1);
    }

    static void feedOfHowMany() {
        TextParts x = new TextParts();
        for (int wrong : new int[] {-1, 9, 64, LOWEST, HIGHEST}) {
            Check.refused("feed(0, " + wrong + ")", ARGUMENT, () -> x.feed(0L, wrong));
        }
        Check.due("bytes at hand", x.about(7), 0);
        int sum = 0;
        for (int n = 0; n <= 8; n++) {
            sum += n;
            Check.due("feed(0, " + n + ")", x.feed(0L, n), sum);
        }
    }

    static void feedTheLowestFirst() {
        TextParts x = new TextParts();
        x.feed(0xFFFFFFFFFFFF0804L, 2);
        x.feed(0x8081FF007F010203L, 8);
        Check.due("read(0)", x.read(0), 1);
        Check.dueText("all eight of w", Check.latest(x), "[" + 0x0302 + ", " + 0x017F + ", " + 0x00FF + ", " + 0x8180 + "]");
        x.feed(0x0604L, 2);
        x.feed(0x1122334455667788L, 5);
        x.feed(0x99L, 1);
        Check.due("read(0)", x.read(0), 1);
        Check.dueText("five of w", Check.latest(x), "[" + 0x8877 + ", " + 0x6655 + ", " + 0x4499 + "]");
    }

    /** Bytes at hand, none of which make a part. */
    private static TextParts withBytesAtHand(int bytes) {
        TextParts x = new TextParts();
        Check.feedAll(x, new int[bytes]);
        return x;
    }

    static void feedToFull() {
        for (int n = 1; n <= 8; n++) {
            int many = n;
            TextParts x = withBytesAtHand(200 - n);
            Check.due("feed of " + n + " up to 200", x.feed(0L, n), 200);
            TextParts y = withBytesAtHand(201 - n);
            Check.refused("feed of " + n + " up to 201", STATE, () -> y.feed(0L, many));
            Check.due("bytes at hand", y.about(7), 201 - n);
        }
        TextParts full = withBytesAtHand(200);
        Check.due("feed of none to 200", full.feed(0L, 0), 200);
        Check.refused("feed of 9 to 200", ARGUMENT, () -> full.feed(0L, 9));
        Check.refused("feed of -1 to 200", ARGUMENT, () -> full.feed(0L, -1));
        Check.due("read(0) of 200", full.read(0), -3);
        Check.due("feed behind it", full.feed(0L, 8), 8);
    }

    static void readAndGone() {
        TextParts x = new TextParts();
        Check.due("read of a fault", Check.readAll(x, 0, 2, 2, 2), -2);
        Check.due("bytes at hand", x.about(7), 0);
        Check.due("read of what is kept", Check.readHeaded(x, 999, 7, 2, 2, 500), 0);
        Check.due("bytes at hand", x.about(7), 0);
        Check.dueText("its heap", Check.heap(x, 0), "999/7/2/1");
        Check.due("read of what is dropped", Check.readHeaded(x, 999, 7, 2, 2, 501), 0);
        Check.due("bytes at hand", x.about(7), 0);
        Check.due("read of what is done", Check.readHeaded(x, 999, 7, 2, 1, 400), 1);
        Check.due("bytes at hand", x.about(7), 0);
        Check.dueText("the text", Check.latest(x), "[400, 500]");
    }

    static void readOfNone() {
        TextParts x = new TextParts();
        Check.due("read(0)", x.read(0), -1);
        Check.due("bytes at hand", x.about(7), 0);
        Check.due("read of a text", Check.readAll(x, 0, 4, 2, 0, 98), 1);
        Check.due("read(0) again", x.read(0), -1);
        Check.dueText("the latest text stays", Check.latest(x), "[98]");
        x.feed(0L, 1);
        Check.due("read(0) of one byte", x.read(0), -1);
        x.feed(0L, 1);
        Check.due("it does not stay for the next", x.read(0), -1);
    }

    static void readOfNoSender() {
        TextParts x = new TextParts();
        Check.feedAll(x, Check.header(5, 6, 1, 2, 1));
        for (int wrong : new int[] {-1, 1000, LOWEST, HIGHEST}) {
            Check.refused("read(" + wrong + ")", ARGUMENT, () -> x.read(wrong));
        }
        Check.due("bytes at hand", x.about(7), 8);
        Check.due("read(999)", x.read(999), 0);
        Check.due("read(0)", Check.readAll(x, 0, Check.header(5, 6, 1, 2, 1)), 0);
        Check.dueText("heap 0", Check.heap(x, 0), "999/1/2/1");
        Check.dueText("heap 1", Check.heap(x, 1), "0/1/2/1");
    }

    static void unitBehind() {
        TextParts x = new TextParts();
        Check.readAll(x, 0, 4, 6, 0, 97, 255, 255, 0, 0);
        Check.due("unit(0)", x.unit(0), 97);
        Check.due("unit(1)", x.unit(1), 65535);
        Check.due("unit(2)", x.unit(2), 0);
        Check.due("unit(3)", x.unit(3), -1);
        Check.due("unit(highest)", x.unit(HIGHEST), -1);
        Check.due("unit(-1)", x.unit(-1), -1);
        Check.due("unit(lowest)", x.unit(LOWEST), -1);
        Check.readHeaded(x, 0, 0, 2, 2, 2000);
        Check.due("unit(2) when a part is kept", x.unit(2), 0);
        Check.readHeaded(x, 0, 0, 2, 1, 1000);
        Check.due("unit(0) of two parts", x.unit(0), 1000);
        Check.due("unit(1) of two parts", x.unit(1), 2000);
        Check.due("unit(2) of two parts", x.unit(2), -1);
        Check.readAll(x, 0, 4, 2, 0, 98);
        Check.due("unit(0) of a shorter text", x.unit(0), 98);
        Check.due("unit(1) of a shorter text", x.unit(1), -1);
    }

    static void unitOfNoText() {
        TextParts x = withTwoParts();
        Check.due("unit(0)", x.unit(0), -1);
        x.take(0, 0);
        Check.due("unit(0) when a part is kept", x.unit(0), -1);
        Check.due("read of a fault", Check.readAll(x, 0, 4, 1, 0), -5);
        Check.due("unit(0) behind a fault", x.unit(0), -1);
        Check.due("read of a text of none", Check.readAll(x, 0, 4, 0), 1);
        Check.due("unit(0) of a text of none", x.unit(0), -1);
        x.take(0, 1);
        Check.due("unit(70)", x.unit(70), 1000);
        Check.due("unit(71)", x.unit(71), -1);
        Check.due("read of a text of none", Check.readAll(x, 0, 0, 0), 1);
        Check.due("unit(0) of a text of none behind another", x.unit(0), -1);
    }

    static void heapInOrder() {
        TextParts x = new TextParts();
        Check.readHeaded(x, 999, 255, 3, 2, 1);
        Check.readHeaded(x, 0, 0, 255, 7, 1);
        Check.readHeaded(x, 500, 1, 2, 1, 1);
        Check.dueText("heap 0", Check.heap(x, 0), "999/255/3/1");
        Check.dueText("heap 1", Check.heap(x, 1), "0/0/255/1");
        Check.dueText("heap 2", Check.heap(x, 2), "500/1/2/1");
        Check.readHeaded(x, 500, 1, 3, 1, 1);
        Check.readHeaded(x, 999, 255, 3, 1, 1);
        Check.dueText("heap 0, put to last, stays first", Check.heap(x, 0), "999/255/3/2");
        Check.dueText("heap 3", Check.heap(x, 3), "500/1/3/1");
        Check.readHeaded(x, 0, 0, 255, 255, 1);
        Check.dueText("heap 1", Check.heap(x, 1), "0/0/255/2");
        Check.readHeaded(x, 999, 255, 3, 3, 1);
        Check.dueText("heap 0 when the first is gone", Check.heap(x, 0), "0/0/255/2");
        Check.readHeaded(x, 999, 255, 3, 3, 1);
        Check.dueText("the same one begun anew is last", Check.heap(x, 3), "999/255/3/1");
    }

    static void heapOfNone() {
        TextParts x = new TextParts();
        Check.dueText("heap 0 of none", Check.heap(x, 0), "-1/-1/-1/-1");
        for (int sender = 1; sender <= 15; sender++) {
            Check.readHeaded(x, sender, 0, 2, 1, 1);
        }
        Check.dueText("heap 14 of 15", Check.heap(x, 14), "15/0/2/1");
        Check.dueText("heap 15 of 15", Check.heap(x, 15), "-1/-1/-1/-1");
        Check.readHeaded(x, 16, 0, 2, 1, 1);
        Check.dueText("heap 15 of 16", Check.heap(x, 15), "16/0/2/1");
        for (int none : new int[] {16, 17, HIGHEST, -1, LOWEST}) {
            Check.dueText("heap " + none, Check.heap(x, none), "-1/-1/-1/-1");
        }
        Check.due("the sixteenth is done", Check.readHeaded(x, 16, 0, 2, 2, 1), 1);
        Check.dueText("heap 15 when it is gone", Check.heap(x, 15), "-1/-1/-1/-1");
    }

    static void heapWhat() {
        TextParts x = new TextParts();
        Check.readHeaded(x, 30, 20, 10, 1, 1);
        int[] due = {30, 20, 10, 1};
        for (int what = 0; what < due.length; what++) {
            Check.due("heap(0, " + what + ")", x.heap(0, what), due[what]);
            Check.due("heap(1, " + what + ")", x.heap(1, what), -1);
        }
        for (int wrong : new int[] {-1, 4, LOWEST, HIGHEST}) {
            Check.refused("heap(0, " + wrong + ")", ARGUMENT, () -> x.heap(0, wrong));
            Check.refused("heap(1, " + wrong + ") of no heap", ARGUMENT, () -> x.heap(1, wrong));
            Check.refused("heap(-1, " + wrong + ") of no heap", ARGUMENT, () -> x.heap(-1, wrong));
        }
    }

    static void forgetHowMany() {
        TextParts x = new TextParts();
        Check.readHeaded(x, 4, 0, 2, 1, 1);
        Check.readHeaded(x, 5, 0, 2, 1, 1);
        Check.readHeaded(x, 4, 1, 2, 1, 1);
        Check.readHeaded(x, 4, 1, 3, 1, 1);
        Check.readHeaded(x, 6, 0, 2, 1, 1);
        Check.due("forget(5), of one", x.forget(5), 1);
        Check.due("forget(4), of three", x.forget(4), 3);
        Check.due("heaps", x.about(5), 1);
        Check.dueText("heap 0", Check.heap(x, 0), "6/0/2/1");
        Check.dueText("heap 1", Check.heap(x, 1), "-1/-1/-1/-1");
        Check.due("what was there is gone", Check.readHeaded(x, 4, 0, 2, 2, 1), 0);
        TextParts y = new TextParts();
        for (int reference = 0; reference < 16; reference++) {
            Check.readHeaded(y, 999, reference, 2, 1, 1);
        }
        Check.due("forget(999), of all 16", y.forget(999), 16);
        Check.due("heaps", y.about(5), 0);
        Check.due("a new one", Check.readHeaded(y, 0, 0, 2, 1, 1), 0);
        Check.due("forget(0)", y.forget(0), 1);
    }

    static void forgetOfNone() {
        TextParts x = new TextParts();
        Check.due("forget(0) of no heap", x.forget(0), 0);
        Check.readHeaded(x, 4, 0, 2, 1, 1);
        Check.readAll(x, 7, 4, 2, 0, 98);
        for (int without : new int[] {0, 3, 5, 7, 999}) {
            Check.due("forget(" + without + ")", x.forget(without), 0);
        }
        Check.due("heaps", x.about(5), 1);
        Check.due("forget(4)", x.forget(4), 1);
        Check.due("forget(4) again", x.forget(4), 0);
        Check.dueText("the latest text stays", Check.latest(x), "[98]");
    }

    static void forgetOfNoSender() {
        TextParts x = new TextParts();
        Check.readHeaded(x, 0, 0, 2, 1, 1);
        Check.readHeaded(x, 999, 0, 2, 1, 1);
        for (int wrong : new int[] {-1, 1000, LOWEST, HIGHEST}) {
            Check.refused("forget(" + wrong + ")", ARGUMENT, () -> x.forget(wrong));
        }
        Check.due("heaps", x.about(5), 2);
        Check.due("forget(999)", x.forget(999), 1);
        Check.due("forget(0)", x.forget(0), 1);
    }
}
