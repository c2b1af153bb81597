import java.util.Arrays;

/**
 * The sentences of the document's first line and of "Terms" that name no boundary, or say more than one:
 * the alphabet number by number, the bytes of a part one by one, and what an inbox makes of parts.
 * No object here has more than 512 calls.
 */
final class SentencesOfTerms {
    private static final Class<IllegalArgumentException> ARGUMENT = IllegalArgumentException.class;

    private static final int[][] OTHERS = {{95, 17}, {163, 1}, {165, 3}, {232, 4}, {233, 5}, {167, 95}, {228, 123},
        {246, 124}, {252, 126}};
    private static final int[][] ESCAPED = {{94, 20}, {123, 40}, {125, 41}, {92, 47}, {91, 60}, {126, 61}, {93, 62},
        {124, 64}, {8364, 101}};

    private SentencesOfTerms() {
    }

    private static TextParts withUnits(int unit, int times) {
        TextParts x = new TextParts();
        Check.putMany(x, unit, times);
        return x;
    }

    /** The bytes of the part that a text of these units makes; it makes one. */
    private static String partOf(int... units) {
        TextParts x = new TextParts();
        Check.puts(x, units);
        Check.due("make() of " + Arrays.toString(units), x.make(), 1);
        return Check.bytes(x, 0);
    }

    static void thereAndBack() {
        TextParts x = new TextParts();
        int[] text = new int[120];
        for (int i = 0; i < text.length; i++) {
            text[i] = i % 2 == 0 ? 8364 : 97 + i % 26;
        }
        Check.puts(x, text);
        Check.due("make() of 180 sevens", x.make(), 2);
        Check.due("sender 5, part 1", x.take(5, 1), 0);
        Check.due("sender 6, part 0", x.take(6, 0), 0);
        Check.due("sender 5, part 0", x.take(5, 0), 1);
        Check.dueText("the text of sender 5", Check.latest(x), Arrays.toString(text));
        x.alter(1, 0, 2);
        Check.due("sender 6, part 1 that can't be read, and why", x.take(6, 1), -2);
        x.alter(1, 0, 1);
        Check.due("sender 6, part 1", x.take(6, 1), 1);
        Check.dueText("the text of sender 6", Check.latest(x), Arrays.toString(text));
    }

    /** 400 units, make(), 109 parts of as many senders, and the two other parts of the last one. */
    static void theLastOf512Calls() {
        TextParts x = withUnits(97, 400);
        x.make();
        for (int sender = 0; sender < 109; sender++) {
            x.take(sender, 0);
        }
        Check.due("call 511", x.take(108, 2), 0);
        Check.due("call 512", x.take(108, 1), 1);
    }

    static void sevensOfTheSameNumber() {
        for (int unit = 10; unit <= 90; unit++) {
            boolean same = unit == 10 || unit == 13 || unit >= 32;
            if (same) {
                sevenDue(unit, unit == 36 ? 2 : unit == 64 ? 0 : unit);
            }
        }
    }

    static void sevensOfSmallLetters() {
        for (int unit = 97; unit <= 122; unit++) {
            sevenDue(unit, unit);
        }
    }

    static void sevensOfOthers() {
        for (int[] row : OTHERS) {
            sevenDue(row[0], row[1]);
        }
    }

    /** A unit is one seven, and is read back of it. */
    private static void sevenDue(int unit, int seven) {
        TextParts x = withUnits(unit, 1);
        Check.due("sevens of unit " + unit, x.about(0), 1);
        x.make();
        Check.dueText("the part of unit " + unit, Check.bytes(x, 0), "[0, 1, " + seven + "]");
        x.take(0, 0);
        Check.dueText("seven " + seven + " read back", Check.latest(x), "[" + unit + "]");
    }

    static void sevensBehindAnEscape() {
        for (int[] row : ESCAPED) {
            TextParts x = withUnits(row[0], 1);
            Check.due("sevens of unit " + row[0], x.about(0), 2);
            x.make();
            int[] packed = Check.packed(27, row[1]);
            Check.dueText("the part of unit " + row[0], Check.bytes(x, 0), "[0, 2, " + packed[0] + ", " + packed[1] + "]");
            x.take(0, 0);
            Check.dueText("27 and " + row[1] + " read back", Check.latest(x), "[" + row[0] + "]");
        }
    }

    static void allElse() {
        for (int unit = 0; unit < 65536; unit++) {
            boolean same = unit == 10 || unit == 13 || (unit >= 32 && unit <= 90) || (unit >= 97 && unit <= 122);
            if (!same && !isFirstOfOne(OTHERS, unit) && !isFirstOfOne(ESCAPED, unit)) {
                TextParts x = withUnits(unit, 1);
                Check.due("sevens of unit " + unit, x.about(0), TextParts.NONE);
            }
        }
        Check.dueText("the part of unit 27, the escape's own", partOf(27), "[4, 2, 0, 27]");
        Check.dueText("the part of unit 96", partOf(96), "[4, 2, 0, 96]");
        Check.dueText("the part of units 97 and 9", partOf(97, 9), "[4, 4, 0, 97, 0, 9]");
    }

    private static boolean isFirstOfOne(int[][] rows, int unit) {
        for (int[] row : rows) {
            if (row[0] == unit) {
                return true;
            }
        }
        return false;
    }

    /** One unit whose seven has six bits, among some that have none, tells where it stands. */
    static void bitsOfEachSeven() {
        for (int place = 0; place < 160; place++) {
            TextParts x = withUnits(64, place);
            x.put(252);
            Check.putMany(x, 64, 159 - place);
            x.make();
            StringBuilder found = new StringBuilder();
            for (int i = 0; i < 140; i++) {
                int b = x.byteOf(0, 2 + i);
                for (int bit = 0; bit < 8; bit++) {
                    if ((b >> bit & 1) == 1) {
                        found.append(' ').append(8 * i + bit);
                    }
                }
            }
            StringBuilder due = new StringBuilder();
            for (int bit = 1; bit < 7; bit++) {
                due.append(' ').append(7 * place + bit);
            }
            Check.dueText("the bits of seven number " + place, found.toString(), due.toString());
        }
        Check.dueText("three sevens", partOf(163, 163, 163), "[0, 3, " + 0b10000001 + ", " + 0b01000000 + ", 0]");
    }

    static void asFewBytes() {
        for (int sevens = 0; sevens <= 160; sevens++) {
            TextParts x = withUnits(122, sevens);
            x.make();
            int few = 0;
            while (8 * few < 7 * sevens) {
                few++;
            }
            Check.due("bytes of " + sevens + " sevens", x.length(0) - 2, few);
            int left = 8 * few - 7 * sevens;
            if (left > 0) {
                Check.due("bits left of " + sevens + " sevens", x.byteOf(0, 1 + few) >> (8 - left), 0);
            }
        }
    }

    static void byTheAlphabetOrByPairs() {
        Check.dueText("all are in it", partOf(97, 98), "[0, 2, 97, 49]");
        Check.dueText("the last one is not", partOf(97, 258), "[4, 4, 0, 97, 1, 2]");
        Check.dueText("the first one is not", partOf(258, 97), "[4, 4, 1, 2, 0, 97]");
        Check.dueText("none is", partOf(65534, 0), "[4, 4, 255, 254, 0, 0]");
        Check.dueText("what has an escape, by pairs", partOf(8364, 200), "[4, 4, 32, 172, 0, 200]");
        TextParts x = new TextParts();
        Check.puts(x, 258);
        x.clear();
        x.put(97);
        x.make();
        Check.dueText("what is cleared does not count", Check.bytes(x, 0), "[0, 1, 97]");
    }

    static void theFirstByte() {
        int[][] due = {{97, 160, 0}, {97, 161, 1}, {1000, 70, 4}, {1000, 71, 5}};
        for (int[] row : due) {
            TextParts x = withUnits(row[0], row[1]);
            int parts = x.make();
            for (int part = 0; part < parts; part++) {
                Check.due("the first byte of part " + part + " of " + row[1] + " units " + row[0], x.byteOf(part, 0),
                        row[2]);
            }
        }
    }

    /** Unit, how many of it, a part, its second byte, and how many bytes follow. */
    static void theSecondByte() {
        int[][] due = {{97, 0, 0, 0, 0}, {97, 9, 0, 9, 8}, {8364, 9, 0, 18, 16}, {97, 160, 0, 160, 140},
            {1000, 9, 0, 18, 18}, {1000, 70, 0, 140, 140}, {97, 161, 0, 160, 140}, {97, 161, 1, 15, 14},
            {8364, 81, 1, 17, 15}, {1000, 71, 0, 140, 140}, {1000, 71, 1, 14, 14}};
        for (int[] row : due) {
            TextParts x = withUnits(row[0], row[1]);
            x.make();
            String what = " of part " + row[2] + " of " + row[1] + " units " + row[0];
            Check.due("the second byte" + what, x.byteOf(row[2], 1), row[3]);
            Check.due("the bytes that follow" + what, x.length(row[2]) - 2, row[4]);
        }
    }

    static void theContents() {
        TextParts x = new TextParts();
        for (int k = 0; k < 71; k++) {
            x.put(1000 + k);
        }
        x.make();
        for (int part = 0; part < 2; part++) {
            int first = 67 * part;
            int units = part == 0 ? 67 : 4;
            for (int k = 0; k < units; k++) {
                int both = x.byteOf(part, 8 + 2 * k) << 8 | x.byteOf(part, 9 + 2 * k);
                Check.due("unit " + k + " of part " + part, both, 1000 + first + k);
            }
            Check.due("behind part " + part, x.byteOf(part, 8 + 2 * units), TextParts.NONE);
        }
    }

    static void theHeader() {
        for (int unit : new int[] {97, 1000}) {
            TextParts x = withUnits(unit, 310);
            int before = x.make();
            int parts = x.make();
            Check.due("parts of the same text", parts, before);
            for (int part = 0; part < parts; part++) {
                int[] header = new int[6];
                for (int k = 0; k < header.length; k++) {
                    header[k] = x.byteOf(part, 2 + k);
                }
                Check.dueText("the header of part " + part, Arrays.toString(header),
                        "[5, 0, 3, 1, " + parts + ", " + (part + 1) + "]");
            }
        }
    }

    static void sevensBehindAHeader() {
        TextParts x = withUnits(97, 153);
        Check.puts(x, 'h', 'e', 'l', 'l', 'o', 8364, 'z');
        x.put('!');
        x.make();
        // Seven sevens of the header, then those of the text: 'h' begins at bit 49.
        int[] packed = Check.packed(0, 0, 0, 0, 0, 0, 0, 104, 101, 108, 108, 111, 27, 101, 122, 33);
        int[] due = Check.joined(Check.header(1, 16, 0, 2, 2), Arrays.copyOfRange(packed, 6, packed.length));
        Check.dueText("part 1", Check.bytes(x, 1), Arrays.toString(due));
    }

    static void heapsAreOfThree() {
        TextParts x = new TextParts();
        int[][] three = {{0, 0, 2}, {999, 0, 2}, {0, 255, 2}, {0, 0, 3}, {999, 255, 255}};
        for (int[] row : three) {
            Check.due("the first part of a heap", Check.readHeaded(x, row[0], row[1], row[2], 1, 7), 0);
        }
        for (int k = 0; k < three.length; k++) {
            Check.dueText("heap " + k, Check.heap(x, k), three[k][0] + "/" + three[k][1] + "/" + three[k][2] + "/1");
        }
        Check.due("part 2 of the second one", Check.readHeaded(x, 999, 0, 2, 2, 8), 1);
        Check.due("heaps", x.about(5), 4);
        for (int reference = 0; reference < 12; reference++) {
            Check.readHeaded(x, 50, reference, 2, 1, 7);
        }
        Check.due("heaps, up to 16", x.about(5), 16);
        Check.readHeaded(x, 50, 99, 2, 1, 7);
        Check.due("heaps, one more begun", x.about(5), 16);
    }

    static void partsWithoutHeader() {
        TextParts x = new TextParts();
        Check.due("by pairs", Check.readAll(x, 3, 4, 2, 1, 2), 1);
        Check.dueText("its text", Check.latest(x), "[258]");
        Check.due("by the alphabet", Check.readAll(x, 3, 0, 2, 97, 49), 1);
        Check.dueText("its text", Check.latest(x), "[97, 98]");
        Check.due("the same again", Check.readAll(x, 3, 0, 2, 97, 49), 1);
        Check.due("heaps", x.about(5), 0);
        for (int sender = 0; sender < 16; sender++) {
            Check.readHeaded(x, sender, 0, 2, 1, 7);
        }
        Check.due("beside 16 heaps", Check.readAll(x, 3, 4, 2, 1, 3), 1);
        Check.dueText("its text", Check.latest(x), "[259]");
        Check.due("heaps", x.about(5), 16);
        Check.dueText("heap 0", Check.heap(x, 0), "0/0/2/1");
    }

    static void aPartIsPutToItsHeap() {
        TextParts x = new TextParts();
        Check.readHeaded(x, 1, 2, 4, 3, 30);
        Check.readHeaded(x, 9, 2, 4, 3, 31);
        for (int number : new int[] {1, 4}) {
            Check.due("part " + number, Check.readHeaded(x, 1, 2, 4, number, 10 * number), 0);
        }
        Check.dueText("the heap", Check.heap(x, 0), "1/2/4/3");
        Check.dueText("the other heap", Check.heap(x, 1), "9/2/4/1");
        Check.due("heaps", x.about(5), 2);
        Check.due("part 2", Check.readHeaded(x, 1, 2, 4, 2, 20), 1);
        Check.dueText("the text", Check.latest(x), "[10, 20, 30, 40]");
    }

    static void theTextOfAHeap() {
        TextParts x = new TextParts();
        // By pairs, by the alphabet with an escape at its end, with no text at all, by the alphabet.
        Check.due("part 4", Check.readAll(x, 7, Check.joined(Check.header(1, 9, 0, 4, 4), 101 << 1, 98)), 0);
        Check.due("part 3", Check.readAll(x, 7, Check.header(5, 6, 0, 4, 3)), 0);
        Check.due("part 1", Check.readHeaded(x, 7, 0, 4, 1, 56319), 0);
        Check.due("units before all are there", x.about(6), 0);
        Check.due("part 2", Check.readAll(x, 7, Check.joined(Check.header(1, 8, 0, 4, 2), 27 << 1)), 1);
        Check.dueText("one behind the other, each read by itself", Check.latest(x), "[56319, 32, 101, 98]");
        Check.due("the heap is gone", x.about(5), 0);
        Check.due("part 1 once more", Check.readHeaded(x, 7, 0, 4, 1, 5), 0);
        Check.dueText("begins a heap", Check.heap(x, 0), "7/0/4/1");
    }

    static void theLatestText() {
        TextParts x = new TextParts();
        Check.readHeaded(x, 1, 0, 2, 1, 500);
        Check.readHeaded(x, 2, 0, 2, 1, 600);
        Check.dueText("none is done", Check.latest(x), "[]");
        Check.readHeaded(x, 2, 0, 2, 2, 601);
        Check.dueText("the second heap is done first", Check.latest(x), "[600, 601]");
        Check.readAll(x, 3, 4, 2, 2, 188);
        Check.dueText("then a part without a header", Check.latest(x), "[700]");
        Check.readHeaded(x, 1, 0, 2, 2, 501);
        Check.dueText("then the first heap", Check.latest(x), "[500, 501]");
        Check.readAll(x, 3, 2, 0);
        Check.readHeaded(x, 4, 0, 2, 1, 800);
        x.forget(1);
        Check.dueText("a fault, a part that is kept and forget() leave it", Check.latest(x), "[500, 501]");
    }

    static void argumentsThatMayNotBe() {
        TextParts x = withUnits(1000, 71);
        x.make();
        int[] parts = {-1, 2};
        for (int part : parts) {
            Check.refused("length(" + part + ")", ARGUMENT, () -> x.length(part));
            Check.refused("byteOf(" + part + ", 0)", ARGUMENT, () -> x.byteOf(part, 0));
            Check.refused("take(0, " + part + ")", ARGUMENT, () -> x.take(0, part));
            Check.refused("alter(" + part + ", 0, 0)", ARGUMENT, () -> x.alter(part, 0, 0));
        }
        for (int i : new int[] {-1, 16}) {
            Check.refused("alter(1, " + i + ", 0)", ARGUMENT, () -> x.alter(1, i, 0));
        }
        for (int b : new int[] {-1, 256}) {
            Check.refused("alter(1, 0, " + b + ")", ARGUMENT, () -> x.alter(1, 0, b));
        }
        for (int sender : new int[] {-1, 1000}) {
            Check.refused("take(" + sender + ", 0)", ARGUMENT, () -> x.take(sender, 0));
            Check.refused("read(" + sender + ")", ARGUMENT, () -> x.read(sender));
            Check.refused("forget(" + sender + ")", ARGUMENT, () -> x.forget(sender));
        }
        Check.refused("put(65536)", ARGUMENT, () -> x.put(65536));
        Check.refused("about(8)", ARGUMENT, () -> x.about(8));
        Check.refused("feed(0, 9)", ARGUMENT, () -> x.feed(0L, 9));
        Check.refused("heap(0, 4)", ARGUMENT, () -> x.heap(0, 4));
        // Where a call has NONE for it, what is not there is no exception.
        Check.due("byteOf(1, 16)", x.byteOf(1, 16), TextParts.NONE);
        Check.due("unit(0)", x.unit(0), TextParts.NONE);
        Check.due("heap(0, 0)", x.heap(0, 0), TextParts.NONE);
    }
}
