import java.util.Arrays;

/**
 * The boundary cases that the document names under "Terms": each sentence has tests of its own, on both
 * sides of its edge. No object here has more than the 512 calls for which the document speaks.
 */
final class EdgesOfTerms {
    private static final Class<IllegalArgumentException> ARGUMENT = IllegalArgumentException.class;
    private static final Class<IllegalStateException> STATE = IllegalStateException.class;

    private EdgesOfTerms() {
    }

    /** The text that sevens read back, of a part that has them alone. */
    private static String readBack(int... sevens) {
        TextParts x = new TextParts();
        Check.due("read of " + Arrays.toString(sevens), Check.readAll(x, 0, part(sevens)), 1);
        return Check.latest(x);
    }

    private static int[] part(int... sevens) {
        return Check.joined(new int[] {0, sevens.length}, Check.packed(sevens));
    }

    /** What a new object's inbox answers to a part. */
    private static int answer(int... bytes) {
        return Check.readAll(new TextParts(), 0, bytes);
    }

    private static TextParts withUnits(int unit, int times) {
        TextParts x = new TextParts();
        Check.putMany(x, unit, times);
        return x;
    }

    static void sevensThatAreNone() {
        for (int none : new int[] {6, 7, 8, 9, 11, 12, 14, 15, 16, 18, 26, 28, 29, 30, 31, 36, 64, 91, 92, 93, 94, 96,
            125, 127}) {
            Check.dueText("seven " + none, readBack(none), "[63]");
        }
        int[][] known = {{0, 64}, {1, 163}, {2, 36}, {3, 165}, {4, 232}, {5, 233}, {10, 10}, {13, 13}, {17, 95},
            {32, 32}, {33, 33}, {35, 35}, {37, 37}, {62, 62}, {63, 63}, {65, 65}, {90, 90}, {95, 167}, {97, 97},
            {122, 122}, {123, 228}, {124, 246}, {126, 252}};
        for (int[] row : known) {
            Check.dueText("seven " + row[0], readBack(row[0]), "[" + row[1] + "]");
        }
        Check.dueText("sevens without an escape", readBack(20, 40, 47, 61, 64, 101), "[63, 40, 47, 61, 63, 101]");
    }

    static void escapesWithASevenThatIsNone() {
        int[][] known = {{20, 94}, {40, 123}, {41, 125}, {47, 92}, {60, 91}, {61, 126}, {62, 93}, {64, 124}, {101, 8364}};
        for (int[] row : known) {
            Check.dueText("an escape with " + row[0], readBack(27, row[0], 65), "[" + row[1] + ", 65]");
        }
        int[][] none = {{0, 64}, {2, 36}, {10, 10}, {17, 95}, {39, 39}, {42, 42}, {46, 46}, {48, 48}, {59, 59},
            {63, 63}, {65, 65}, {95, 167}, {100, 100}, {102, 102}, {126, 252}};
        for (int[] row : none) {
            Check.dueText("an escape with " + row[0], readBack(27, row[0], 65), "[" + row[1] + ", 65]");
        }
        for (int seven : new int[] {19, 21, 27, 36, 91, 94, 127}) {
            Check.dueText("an escape with " + seven + ", which alone is none too", readBack(27, seven, 65), "[63, 65]");
        }
        Check.dueText("an escape with an escape uses both up", readBack(27, 27, 40), "[63, 40]");
    }

    static void escapesAtTheEnd() {
        Check.dueText("an escape alone", readBack(27), "[32]");
        Check.dueText("an escape behind another seven", readBack(65, 27), "[65, 32]");
        Check.dueText("an escape behind one that has its seven", readBack(27, 40, 27), "[123, 32]");
        Check.dueText("an escape before the last seven", readBack(27, 40), "[123]");
        Check.dueText("the second of two is not alone", readBack(27, 27), "[63]");
        int[] full = new int[160];
        Arrays.fill(full, 97);
        full[159] = 27;
        TextParts x = new TextParts();
        Check.due("read of 160 sevens", Check.readAll(x, 0, part(full)), 1);
        Check.due("the last but one", x.unit(158), 97);
        Check.due("an escape as number 160", x.unit(159), 32);
        Check.due("units", x.about(6), 160);
        TextParts y = new TextParts();
        Check.readAll(y, 0, Check.joined(Check.header(1, 8, 0, 2, 1), 27 << 1));
        Check.due("part 2", Check.readAll(y, 0, Check.joined(Check.header(1, 8, 0, 2, 2), 40 << 1)), 1);
        Check.dueText("an escape at the end of part 1 of 2", Check.latest(y), "[32, 40]");
    }

    static void bitsThatAreLeft() {
        TextParts x = new TextParts();
        // The row of bytes was full of other bits before.
        Check.putMany(x, 252, 16);
        x.make();
        x.clear();
        int[] sevens = {};
        for (int count = 1; count <= 16; count++) {
            x.put(252);
            x.make();
            sevens = Check.joined(sevens, 126);
            Check.dueText(count + " sevens", Check.bytes(x, 0), Arrays.toString(part(sevens)));
        }
        TextParts y = withUnits(252, 161);
        y.make();
        for (int count = 8; count <= 16; count++) {
            Check.due("length(1) with " + count + " sevens behind a header", y.length(1), 2 + (7 * count + 56) / 8);
            int used = (7 * (7 + count) - 1) % 8 + 1;
            Check.due("its last byte with " + count + " sevens", y.byteOf(1, y.length(1) - 1) >> used, 0);
            y.put(252);
            y.make();
        }
    }

    static void onePart() {
        int[][] plain = {{0, 1}, {1, 1}, {159, 1}, {160, 1}, {161, 2}};
        for (int[] row : plain) {
            partsDue(withUnits(97, row[0]), row[0] + " sevens", row[1], 0);
        }
        int[][] escaped = {{79, 1}, {80, 1}, {81, 2}};
        for (int[] row : escaped) {
            partsDue(withUnits(8364, row[0]), row[0] + " escapes", row[1], 0);
        }
        TextParts x = withUnits(91, 79);
        Check.puts(x, 97, 97);
        partsDue(x, "79 escapes and 2 sevens", 1, 0);
        x.put(97);
        partsDue(x, "79 escapes and 3 sevens", 2, 0);
        int[][] pairs = {{1, 1}, {69, 1}, {70, 1}, {71, 2}};
        for (int[] row : pairs) {
            partsDue(withUnits(1000, row[0]), row[0] + " pairs", row[1], 4);
        }
        TextParts y = withUnits(97, 70);
        y.put(1000);
        partsDue(y, "70 units of the alphabet and one that is not", 2, 4);
    }

    /** How many parts there would be and are, and that the first one tells by its first byte of headers. */
    private static void partsDue(TextParts x, String what, int parts, int pairs) {
        Check.due("about(1) of " + what, x.about(1), parts);
        Check.due("make() of " + what, x.make(), parts);
        Check.due("the first byte of " + what, x.byteOf(0, 0), pairs + (parts > 1 ? 1 : 0));
    }

    static void partsWithHeaders() {
        sizesDue(withUnits(97, 161), "161 sevens", 7 + 153, 7 + 8);
        sizesDue(withUnits(97, 305), "305 sevens", 7 + 153, 7 + 152);
        sizesDue(withUnits(97, 306), "306 sevens", 7 + 153, 7 + 153);
        sizesDue(withUnits(97, 307), "307 sevens", 7 + 153, 7 + 153, 7 + 1);
        sizesDue(withUnits(97, 459), "459 sevens", 7 + 153, 7 + 153, 7 + 153);
        sizesDue(withUnits(97, 460), "460 sevens", 7 + 153, 7 + 153, 7 + 153, 7 + 1);
        sizesDue(withUnits(1000, 71), "71 pairs", 6 + 134, 6 + 8);
        sizesDue(withUnits(1000, 133), "133 pairs", 6 + 134, 6 + 132);
        sizesDue(withUnits(1000, 134), "134 pairs", 6 + 134, 6 + 134);
        sizesDue(withUnits(1000, 135), "135 pairs", 6 + 134, 6 + 134, 6 + 2);
        sizesDue(withUnits(1000, 402), "402 pairs", 140, 140, 140, 140, 140, 140);
        sizesDue(withUnits(1000, 403), "403 pairs", 140, 140, 140, 140, 140, 140, 8);
    }

    /** What the second byte of each part tells. */
    private static void sizesDue(TextParts x, String what, int... sizes) {
        Check.due("make() of " + what, x.make(), sizes.length);
        for (int part = 0; part < sizes.length; part++) {
            Check.due("the second byte of part " + part + " of " + what, x.byteOf(part, 1), sizes[part]);
        }
        Check.refused("a part more of " + what, ARGUMENT, () -> x.length(sizes.length));
    }

    static void togetherByTheAlphabet() {
        int[][] due = {{150, 160}, {151, 160}, {152, 159}, {153, 160}};
        for (int[] row : due) {
            TextParts x = withUnits(97, row[0]);
            x.put(8364);
            Check.putMany(x, 97, 10);
            int all = row[0] + 12 + 14;
            sizesDue(x, row[0] + " sevens before an escape", row[1], all - row[1]);
            x.take(0, 0);
            Check.due("both parts are taken", x.take(0, 1), 1);
            Check.due("units of the text", x.about(6), row[0] + 11);
            Check.due("the unit with the escape", x.unit(row[0]), 8364);
            Check.due("the one before it", x.unit(row[0] - 1), 97);
            Check.due("the one behind it", x.unit(row[0] + 1), 97);
        }
        sizesDue(withUnits(8364, 152), "152 escapes", 159, 159);
        sizesDue(withUnits(8364, 153), "153 escapes", 159, 159, 9);
        TextParts y = withUnits(97, 1);
        Check.putMany(y, 8364, 152);
        sizesDue(y, "152 escapes behind a seven", 160, 159);
        TextParts z = withUnits(97, 305);
        Check.puts(z, 8364);
        sizesDue(z, "an escape where the second part ends", 160, 159, 9);
    }

    static void togetherByPairs() {
        // The units on both sides of where 67 would end, and how many the first part has.
        int[][] due = {{55296, 56320, 66}, {56319, 56320, 66}, {55296, 57343, 66}, {56319, 57343, 66},
            {55295, 56320, 67}, {56320, 56320, 67}, {55296, 56319, 67}, {55296, 57344, 67}, {56320, 55296, 67},
            {57343, 56320, 67}, {55296, 55296, 67}};
        for (int[] row : due) {
            TextParts x = withUnits(1000, 66);
            Check.puts(x, row[0], row[1]);
            Check.putMany(x, 1000, 5);
            sizesDue(x, row[0] + " and " + row[1], 6 + 2 * row[2], 6 + 2 * (73 - row[2]));
        }
        TextParts before = withUnits(1000, 65);
        Check.puts(before, 55296, 56320);
        Check.putMany(before, 1000, 6);
        sizesDue(before, "two that end with the part", 140, 18);
        TextParts behind = withUnits(1000, 67);
        Check.puts(behind, 55296, 56320);
        Check.putMany(behind, 1000, 4);
        sizesDue(behind, "two that begin the next part", 140, 18);
        TextParts second = withUnits(1000, 133);
        Check.puts(second, 55296, 56320);
        sizesDue(second, "two where the second part ends", 140, 138, 10);
        TextParts alone = withUnits(1000, 133);
        Check.puts(alone, 55296);
        sizesDue(alone, "the last unit has none behind it", 140, 140);
    }

    static void partsAtMost() {
        int[][] due = {{97, 153}, {8364, 76}, {1000, 67}};
        for (int[] row : due) {
            TextParts x = new TextParts();
            Check.putManyWithin(x, row[0], 255 * row[1]);
            Check.due("about(1) of a text that fills 255 parts", x.about(1), 255);
            Check.due("make() of it", x.make(), 255);
            Check.due("how many, in the last one", x.byteOf(254, 6), 255);
            Check.due("which one, in the last one", x.byteOf(254, 7), 255);
            Check.putManyWithin(x, row[0], 1);
            Check.due("about(1) of one unit more", x.about(1), 0);
            Check.refused("make() of it", UnsupportedOperationException.class, x::make);
        }
    }

    static void theBitBetween() {
        int[][] due = {{64, 0}, {163, 1}, {97, 97}, {252, 126}};
        for (int[] row : due) {
            TextParts x = withUnits(row[0], 161);
            x.make();
            int twoSevens = row[1] << 1 | row[1] << 8;
            for (int part = 0; part < 2; part++) {
                Check.due("header's last byte before seven " + row[1], x.byteOf(part, 7), part + 1);
                Check.due("the byte with the bit between, seven " + row[1], x.byteOf(part, 8), twoSevens & 255);
            }
        }
    }

    static void references() {
        TextParts x = withUnits(1000, 71);
        for (int k = 0; k < 258; k++) {
            x.make();
            if (k < 2 || k > 253) {
                Check.due("reference of message " + k, x.byteOf(0, 5), k % 256);
                Check.due("reference of its second part", x.byteOf(1, 5), k % 256);
                Check.due("the next reference", x.about(3), (k + 1) % 256);
            }
        }
        x.clear();
        x.make();
        Check.due("a message without headers uses none", x.about(3), 2);
    }

    static void fault1() {
        Check.due("no byte", answer(), -1);
        for (int only : new int[] {0, 1, 4, 5}) {
            Check.due("byte " + only + " alone", answer(only), -1);
        }
        Check.due("two bytes, by the alphabet", answer(0, 0), 1);
        Check.due("two bytes, by pairs", answer(4, 0), 1);
    }

    static void fault2() {
        for (int first = 0; first < 256; first++) {
            boolean known = first == 0 || first == 1 || first == 4 || first == 5;
            Check.due("a first byte " + first, answer(first, 0) == -2 ? 1 : 0, known ? 0 : 1);
        }
    }

    static void fault3BySevens() {
        for (int sevens = 0; sevens <= 160; sevens++) {
            int needed = sevens - sevens / 8;
            Check.due(sevens + " sevens in " + needed + " bytes", answer(Check.zeros(0, sevens, needed)), 1);
            Check.due(sevens + " sevens in a byte more", answer(Check.zeros(0, sevens, needed + 1)), -3);
            if (needed > 0) {
                Check.due(sevens + " sevens in a byte less", answer(Check.zeros(0, sevens, needed - 1)), -3);
            }
        }
        Check.due("161 sevens in as many bytes as they need", answer(Check.zeros(0, 161, 141)), -3);
        Check.due("161 sevens in 140 bytes", answer(Check.zeros(0, 161, 140)), -3);
        Check.due("168 sevens", answer(Check.zeros(0, 168, 147)), -3);
        Check.due("226 sevens in 198 bytes", answer(Check.zeros(0, 226, 198)), -3);
        Check.due("255 sevens", answer(0, 255), -3);
        int[] header = Check.header(1, 160, 0, 2, 1);
        Check.due("160 sevens with a header", answer(Arrays.copyOf(header, 142)), 0);
        header[1] = 161;
        Check.due("161 sevens with a header", answer(Arrays.copyOf(header, 143)), -3);
    }

    static void fault3ByPairs() {
        for (int bytes = 0; bytes <= 140; bytes += 2) {
            Check.due(bytes + " bytes", answer(Check.zeros(4, bytes, bytes)), 1);
            Check.due(bytes + " bytes and one more", answer(Check.zeros(4, bytes, bytes + 1)), -3);
            if (bytes > 0) {
                Check.due(bytes + " bytes but one", answer(Check.zeros(4, bytes, bytes - 1)), -3);
            }
        }
        Check.due("141 bytes", answer(Check.zeros(4, 141, 141)), -3);
        Check.due("142 bytes", answer(Check.zeros(4, 142, 142)), -3);
        Check.due("160 bytes", answer(Check.zeros(4, 160, 160)), -3);
        Check.due("198 bytes", answer(Check.zeros(4, 198, 198)), -3);
        Check.due("255 bytes", answer(4, 255), -3);
        int[] header = Check.header(5, 140, 0, 2, 1);
        Check.due("140 bytes with a header", answer(Arrays.copyOf(header, 142)), 0);
        header[1] = 142;
        Check.due("142 bytes with a header", answer(Arrays.copyOf(header, 144)), -3);
    }

    static void fault4NotWhole() {
        int[] pairs = Check.header(5, 6, 0, 2, 1);
        Check.due("6 bytes by pairs", answer(pairs), 0);
        for (int bytes = 0; bytes < 6; bytes++) {
            pairs[1] = bytes;
            Check.due(bytes + " bytes by pairs", answer(Arrays.copyOf(pairs, 2 + bytes)), -4);
        }
        int[] sevens = Check.header(1, 7, 0, 2, 1);
        Check.due("7 sevens", answer(Check.joined(sevens, 0)), 0);
        for (int count = 0; count < 7; count++) {
            sevens[1] = count;
            Check.due(count + " sevens", answer(Arrays.copyOf(sevens, 2 + count)), -4);
        }
        Check.due("no header is asked for where there is none", answer(4, 4, 0, 1, 0, 2), 1);
    }

    /** A header with no text, by pairs and by the alphabet, one of its bytes being another. */
    private static void headerDue(String what, int place, int b, int due) {
        int[] pairs = Check.header(5, 6, 7, 2, 1);
        pairs[place] = b;
        Check.due(what + ", by pairs", answer(pairs), due);
        int[] sevens = Check.joined(Check.header(1, 7, 7, 2, 1), 0);
        sevens[place] = b;
        Check.due(what + ", by the alphabet", answer(sevens), due);
    }

    static void fault4FirstThree() {
        int[] known = {5, 0, 3};
        for (int k = 0; k < known.length; k++) {
            for (int b = 0; b < 256; b++) {
                headerDue("byte " + k + " of the header is " + b, 2 + k, b, b == known[k] ? 0 : -4);
            }
        }
        headerDue("reference 0", 5, 0, 0);
        headerDue("reference 255", 5, 255, 0);
    }

    static void fault4Numbers() {
        int[][] due = {{0, 0, -4}, {0, 1, -4}, {1, 0, -4}, {1, 1, 1}, {1, 2, -4}, {2, 0, -4}, {2, 1, 0}, {2, 2, 0},
            {2, 3, -4}, {254, 254, 0}, {254, 255, -4}, {255, 0, -4}, {255, 1, 0}, {255, 255, 0}};
        for (int[] row : due) {
            String what = "part " + row[1] + " of " + row[0];
            Check.due(what + ", by pairs", answer(Check.header(5, 6, 0, row[0], row[1])), row[2]);
            Check.due(what + ", by the alphabet",
                    answer(Check.joined(Check.header(1, 7, 0, row[0], row[1]), 0)), row[2]);
        }
    }

    static void fault5() {
        for (int bytes = 0; bytes <= 140; bytes++) {
            Check.due(bytes + " bytes", answer(Check.zeros(4, bytes, bytes)), bytes % 2 == 0 ? 1 : -5);
        }
        for (int bytes = 6; bytes <= 140; bytes++) {
            int[] headed = Arrays.copyOf(Check.header(5, bytes, 0, 2, 1), 2 + bytes);
            Check.due(bytes + " bytes with a header", answer(headed), bytes % 2 == 0 ? 0 : -5);
        }
        Check.due("an odd number by the alphabet", answer(0, 3, 0, 0, 0), 1);
    }

    static void fault6AtTheEnd() {
        for (int sevens = 1; sevens <= 160; sevens++) {
            int bytes = sevens - sevens / 8;
            int left = 8 * bytes - 7 * sevens;
            for (int bit = 0; bit < 8; bit++) {
                int[] part = Check.zeros(0, sevens, bytes);
                part[1 + bytes] = 1 << bit;
                Check.due("bit " + bit + " of the last byte of " + sevens, answer(part), bit < 8 - left ? 1 : -6);
            }
        }
        for (int sevens = 7; sevens <= 160; sevens++) {
            int bytes = sevens - sevens / 8;
            int left = 8 * bytes - 7 * sevens;
            for (int bit = 1; bit < 8; bit++) {
                int[] part = Arrays.copyOf(Check.header(1, sevens, 0, 2, 1), 2 + bytes);
                part[1 + bytes] = 1 << bit;
                Check.due("bit " + bit + " of the last byte of " + sevens + " with a header", answer(part),
                        bit < 8 - left ? 0 : -6);
            }
        }
        Check.due("no bits are left by pairs", answer(4, 2, 255, 255), 1);
    }

    static void fault6Between() {
        int[][] due = {{0, 0}, {1, -6}, {2, 0}, {3, -6}, {254, 0}, {255, -6}};
        for (int[] row : due) {
            Check.due("byte " + row[0] + " behind a header",
                    answer(Check.joined(Check.header(1, 8, 0, 2, 1), row[0])), row[1]);
        }
        Check.due("the bit between, no text", answer(Check.joined(Check.header(1, 7, 0, 2, 1), 1)), -6);
        Check.due("that bit without a header", answer(0, 8, 0, 0, 0, 0, 0, 0, 1), 1);
        Check.due("that bit by pairs", answer(Check.joined(Check.header(5, 8, 0, 2, 1), 1, 1)), 0);
    }

    static void theFirstFault() {
        Check.due("1 and 2", answer(9), -1);
        Check.due("2 and 3", answer(2, 161), -2);
        Check.due("2 and 4", answer(7, 6, 5, 0, 3, 0, 0, 0), -2);
        Check.due("2 and 5", answer(6, 1, 0), -2);
        Check.due("2 and 6", answer(2, 1, 255), -2);
        Check.due("3 and 4, by pairs", answer(5, 6, 5, 0, 3, 0, 0), -3);
        Check.due("3 and 4, by the alphabet", answer(1, 7, 5, 0, 3, 0, 2, 3), -3);
        Check.due("3 and 4, too much", answer(Check.zeros(5, 142, 142)), -3);
        Check.due("3 and 5, bytes are missing", answer(4, 3, 0), -3);
        Check.due("3 and 5, too much", answer(Check.zeros(4, 141, 141)), -3);
        Check.due("3 and 6, a byte too many", answer(0, 1, 255, 255), -3);
        Check.due("4 and 5, not whole", answer(5, 5, 5, 0, 3, 0, 2), -4);
        Check.due("4 and 5, part 3 of 2", answer(5, 7, 5, 0, 3, 0, 2, 3, 0), -4);
        Check.due("4 and 6, at the end", answer(1, 7, 5, 0, 3, 0, 2, 0, 128), -4);
        Check.due("4 and 6, between", answer(1, 8, 5, 0, 4, 0, 2, 1, 1), -4);
        Check.due("5 alone", answer(5, 7, 5, 0, 3, 0, 2, 1, 255), -5);
        Check.due("6 alone", answer(1, 7, 5, 0, 3, 0, 2, 1, 255), -6);
    }

    static void aPartThatIsThere() {
        TextParts x = new TextParts();
        Check.due("part 2", Check.readHeaded(x, 5, 6, 3, 2, 20), 0);
        Check.due("part 2 again", Check.readHeaded(x, 5, 6, 3, 2, 21), 0);
        Check.dueText("the heap", Check.heap(x, 0), "5/6/3/1");
        Check.due("part 3", Check.readHeaded(x, 5, 6, 3, 3, 30), 0);
        Check.dueText("the heap", Check.heap(x, 0), "5/6/3/2");
        Check.due("part 3 again", Check.readHeaded(x, 5, 6, 3, 3, 31), 0);
        Check.due("no text is done by what is dropped", x.about(6), 0);
        Check.due("one heap", x.about(5), 1);
        Check.due("part 1", Check.readHeaded(x, 5, 6, 3, 1, 10), 1);
        Check.dueText("the text of the parts that came first", Check.latest(x), "[10, 20, 30]");
        Check.due("part 1 when the heap is gone", Check.readHeaded(x, 5, 6, 3, 1, 11), 0);
        Check.dueText("a heap begins anew", Check.heap(x, 0), "5/6/3/1");
        Check.due("a part of no text", Check.readAll(x, 5, Check.header(5, 6, 6, 3, 2)), 0);
        Check.dueText("it is there all the same", Check.heap(x, 0), "5/6/3/2");
        Check.due("the same number with a text", Check.readHeaded(x, 5, 6, 3, 2, 22), 0);
        Check.dueText("it is dropped", Check.heap(x, 0), "5/6/3/2");
    }

    /** Heaps of senders 0, 1, .., each with the first of three parts. */
    private static TextParts withHeaps(int count) {
        TextParts x = new TextParts();
        for (int sender = 0; sender < count; sender++) {
            Check.readHeaded(x, sender, 0, 3, 1, 1);
        }
        return x;
    }

    private static String senders(TextParts x) {
        StringBuilder s = new StringBuilder();
        for (int i = 0; x.heap(i, 0) != TextParts.NONE; i++) {
            s.append(x.heap(i, 0)).append(' ');
        }
        return s.toString().trim();
    }

    static void theHeapThatGivesWay() {
        TextParts x = withHeaps(16);
        Check.dueText("16 heaps", senders(x), "0 1 2 3 4 5 6 7 8 9 10 11 12 13 14 15");
        Check.due("a part of a seventeenth", Check.readHeaded(x, 16, 0, 3, 1, 1), 0);
        Check.dueText("the first one gave way", senders(x), "1 2 3 4 5 6 7 8 9 10 11 12 13 14 15 16");
        Check.readHeaded(x, 1, 0, 3, 2, 1);
        Check.readHeaded(x, 17, 0, 3, 1, 1);
        Check.dueText("sender 1 was put to later", senders(x), "1 3 4 5 6 7 8 9 10 11 12 13 14 15 16 17");
        for (int sender = 3; sender < 16; sender++) {
            Check.readHeaded(x, sender, 0, 3, 3, 1);
        }
        Check.readHeaded(x, 18, 0, 3, 1, 1);
        Check.dueText("sender 16, begun late", senders(x), "1 3 4 5 6 7 8 9 10 11 12 13 14 15 17 18");
        Check.readHeaded(x, 19, 0, 3, 1, 1);
        Check.dueText("then sender 1, the first of all", senders(x), "3 4 5 6 7 8 9 10 11 12 13 14 15 17 18 19");
        Check.due("a part of a heap that gave way", Check.readHeaded(x, 1, 0, 3, 3, 1), 0);
        Check.dueText("what was there is lost", Check.heap(x, 15), "1/0/3/1");
        Check.due("the same sender with another reference", Check.readHeaded(x, 1, 1, 3, 1, 1), 0);
        Check.dueText("it takes a place too", senders(x), "4 5 6 7 8 9 10 11 12 13 14 15 18 19 1 1");
    }

    static void nothingGivesWayBelowSixteen() {
        TextParts x = withHeaps(15);
        Check.readHeaded(x, 15, 0, 3, 1, 1);
        Check.due("the sixteenth takes no other's place", x.about(5), 16);
        Check.readHeaded(x, 0, 0, 3, 2, 1);
        Check.due("nor does a part of a heap that is there", x.about(5), 16);
        Check.due("one without a header", Check.readAll(x, 20, 4, 2, 0, 98), 1);
        Check.due("it needs no heap", x.about(5), 16);
        Check.due("one with a fault", Check.readAll(x, 20, Check.header(5, 6, 0, 2, 3)), -4);
        Check.due("it begins none", x.about(5), 16);
        Check.due("a text that is done", Check.readHeaded(x, 0, 0, 3, 3, 1), 1);
        Check.due("its heap is gone", x.about(5), 15);
        Check.readHeaded(x, 16, 0, 3, 1, 1);
        Check.dueText("there was room", senders(x), "1 2 3 4 5 6 7 8 9 10 11 12 13 14 15 16");
        Check.due("one of one, with a header", Check.readHeaded(x, 20, 0, 1, 1, 77), 1);
        Check.dueText("it begins a heap as any other", senders(x), "2 3 4 5 6 7 8 9 10 11 12 13 14 15 16");
    }

    static void whatCountsAsPut() {
        TextParts x = withHeaps(16);
        Check.due("what is there already", Check.readHeaded(x, 0, 0, 3, 1, 2), 0);
        Check.due("what has a fault", Check.readAll(x, 0, 5, 7, 5, 0, 3, 0, 3, 2, 1), -5);
        Check.due("what has no header", Check.readAll(x, 0, 4, 2, 0, 98), 1);
        Check.readHeaded(x, 16, 0, 3, 1, 1);
        Check.dueText("sender 0 gave way", senders(x), "1 2 3 4 5 6 7 8 9 10 11 12 13 14 15 16");
    }

    /** An object with something of all that it can hold. */
    private static TextParts withSomeOfAll() {
        TextParts x = withUnits(1000, 71);
        x.make();
        x.take(3, 1);
        Check.readHeaded(x, 4, 9, 2, 1, 7);
        Check.readAll(x, 0, 4, 2, 0, 98);
        x.feed(0x010204L, 3);
        x.put(97);
        return x;
    }

    /** What can be seen, and what later calls make of what can't. */
    private static String allOf(TextParts x) {
        StringBuilder s = new StringBuilder(Check.state(x));
        s.append(' ').append(x.feed(2, 1)).append(' ').append(x.read(5)).append(Check.latest(x));
        s.append(' ').append(Check.readHeaded(x, 4, 9, 2, 2, 8)).append(Check.latest(x));
        s.append(' ').append(x.take(3, 0)).append(' ').append(x.about(6));
        return s.append(' ').append(x.make()).append(' ').append(x.byteOf(1, 17)).toString();
    }

    static void callsThatThrow() {
        TextParts x = withSomeOfAll();
        int last = Integer.MAX_VALUE;
        Check.Call[] wrong = {() -> x.put(-1), () -> x.put(65536), () -> x.about(-1), () -> x.about(8),
            () -> x.length(-1), () -> x.length(2), () -> x.byteOf(-1, 0), () -> x.byteOf(2, 0), () -> x.take(-1, 0),
            () -> x.take(1000, 0), () -> x.take(3, -1), () -> x.take(3, 2), () -> x.alter(-1, 0, 9),
            () -> x.alter(2, 0, 9), () -> x.alter(0, -1, 9), () -> x.alter(0, 142, 9), () -> x.alter(1, 18, 9),
            () -> x.alter(0, 0, -1), () -> x.alter(0, 0, 256), () -> x.alter(0, last, 9), () -> x.feed(9, -1),
            () -> x.feed(9, 9), () -> x.read(-1), () -> x.read(1000), () -> x.heap(0, -1), () -> x.heap(0, 4),
            () -> x.forget(-1), () -> x.forget(1000)};
        for (int k = 0; k < wrong.length; k++) {
            Check.refused("wrong call " + k, ARGUMENT, wrong[k]);
        }
        Check.dueText("all of the object behind them", allOf(x), allOf(withSomeOfAll()));
    }

    static void fullCallsThatThrow() {
        TextParts hand = new TextParts();
        Check.feedAll(hand, Check.zeros(4, 140, 193));
        Check.refused("feed of 6 to 195", STATE, () -> hand.feed(-1L, 6));
        Check.due("bytes at hand", hand.about(7), 195);
        Check.due("feed of 5", hand.feed(0L, 5), 200);
        Check.refused("feed of 1 to 200", STATE, () -> hand.feed(-1L, 1));
        Check.due("bytes at hand", hand.about(7), 200);
        TextParts full = new TextParts();
        Check.putManyWithin(full, 97, 3000);
        Check.refused("put(1000) to 3000 units", STATE, () -> full.put(1000));
        Check.due("units", full.about(2), 3000);
        Check.due("sevens", full.about(0), 3000);
        TextParts long255 = withUnits(1000, 71);
        long255.make();
        String before = Check.bytes(long255, 1);
        Check.putManyWithin(long255, 1000, 67 * 255);
        Check.refused("make() of more than 255", UnsupportedOperationException.class, long255::make);
        Check.due("the next reference", long255.about(3), 1);
        Check.due("parts made", long255.about(4), 2);
        Check.dueText("the second part", Check.bytes(long255, 1), before);
        Check.due("units", long255.about(2), 71 + 67 * 255);
    }

    static void throwingIsNotPutting() {
        TextParts x = withHeaps(16);
        Check.feedAll(x, Check.header(5, 6, 0, 3, 2));
        Check.refused("read(1000)", ARGUMENT, () -> x.read(1000));
        Check.refused("read(-1)", ARGUMENT, () -> x.read(-1));
        Check.refused("take(0, 0) of no part", ARGUMENT, () -> x.take(0, 0));
        Check.refused("forget(1000)", ARGUMENT, () -> x.forget(1000));
        Check.due("read(16)", x.read(16), 0);
        Check.dueText("sender 0 gave way", senders(x), "1 2 3 4 5 6 7 8 9 10 11 12 13 14 15 16");
    }
}
