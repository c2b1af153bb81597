/** Promises 5 to 7 and 9: make, length, byteOf, alter. */
public final class MakingTest {
    public static void main(String[] args) {
        packing();
        packingOfEverySeven();
        pairs();
        partsBySevens();
        aCutBeforeAnEscape();
        partsByPairs();
        cutsBetweenHalves();
        references();
        newPartsReplaceOld();
        length();
        byteOf();
        alter();
        Check.finish("MakingTest");
    }

    private static void packing() {
        TextParts x = new TextParts();
        Check.due("make() of no text", x.make(), 1);
        Check.dueText("the part of no text", Check.bytes(x, 0), "[0, 0]");
        Check.puts(x, 'h', 'e', 'l', 'l', 'o');
        Check.due("make()", x.make(), 1);
        Check.dueText("hello", Check.bytes(x, 0), "[0, 5, 232, 50, 155, 253, 6]");
        x.clear();
        Check.putMany(x, 'z', 8);
        x.make();
        Check.dueText("eight sevens are seven bytes", Check.bytes(x, 0), "[0, 8, 122, 189, 94, 175, 215, 235, 245]");
        x.put(8364);
        x.make();
        Check.dueText("an escape is first", Check.bytes(x, 0), "[0, 10, 122, 189, 94, 175, 215, 235, 245, 155, 50]");
        Check.due("no reference is used", x.about(3), 0);
    }

    private static void packingOfEverySeven() {
        int[][] due = {{10, 10}, {13, 13}, {32, 32}, {33, 33}, {36, 2}, {64, 0}, {90, 90}, {97, 97}, {122, 122},
            {95, 17}, {163, 1}, {165, 3}, {232, 4}, {233, 5}, {167, 95}, {228, 123}, {246, 124}, {252, 126}};
        for (int[] row : due) {
            TextParts x = new TextParts();
            x.put(row[0]);
            x.make();
            Check.dueText("unit " + row[0], Check.bytes(x, 0), "[0, 1, " + row[1] + "]");
        }
        int[][] escaped = {{94, 20}, {123, 40}, {125, 41}, {92, 47}, {91, 60}, {126, 61}, {93, 62}, {124, 64}, {8364, 101}};
        for (int[] row : escaped) {
            TextParts x = new TextParts();
            x.put(row[0]);
            x.make();
            int both = 27 | row[1] << 7;
            Check.dueText("unit " + row[0], Check.bytes(x, 0), "[0, 2, " + (both & 255) + ", " + (both >> 8) + "]");
        }
    }

    private static void pairs() {
        TextParts x = new TextParts();
        Check.puts(x, 97, 27, 65534);
        Check.due("make()", x.make(), 1);
        Check.dueText("by pairs", Check.bytes(x, 0), "[4, 6, 0, 97, 0, 27, 255, 254]");
        x.clear();
        Check.putMany(x, 1000, 70);
        Check.due("make() of 70", x.make(), 1);
        Check.due("length(0)", x.length(0), 142);
        Check.due("byteOf(0, 1)", x.byteOf(0, 1), 140);
        Check.due("no reference is used", x.about(3), 0);
    }

    private static void partsBySevens() {
        TextParts x = new TextParts();
        Check.putMany(x, 97, 160);
        Check.due("make() of 160", x.make(), 1);
        Check.due("length(0)", x.length(0), 142);
        Check.due("byteOf(0, 0)", x.byteOf(0, 0), 0);
        Check.due("byteOf(0, 1)", x.byteOf(0, 1), 160);
        x.put(122);
        Check.due("make() of 161", x.make(), 2);
        Check.due("length(0)", x.length(0), 142);
        Check.due("byteOf(0, 1)", x.byteOf(0, 1), 160);
        Check.due("length(1)", x.length(1), 16);
        int[] front = {1, 160, 5, 0, 3, 0, 2, 1, 97 << 1};
        for (int i = 0; i < front.length; i++) {
            Check.due("first part, byte " + i, x.byteOf(0, i), front[i]);
        }
        // Seven a's and a z from bit 49 on: the bit between is 0, a's are 1100001.
        Check.dueText("second part", Check.bytes(x, 1),
                "[1, 15, 5, 0, 3, 0, 2, 2, 194, 225, 112, 56, 28, 14, 235, 1]");
    }

    private static void aCutBeforeAnEscape() {
        TextParts x = new TextParts();
        Check.putMany(x, 97, 152);
        x.put(8364);
        Check.putMany(x, 97, 8);
        Check.due("make()", x.make(), 2);
        Check.due("sevens of the first part", x.byteOf(0, 1), 159);
        Check.due("sevens of the second part", x.byteOf(1, 1), 17);
        x.clear();
        Check.putMany(x, 97, 151);
        x.put(8364);
        Check.putMany(x, 97, 9);
        Check.due("make()", x.make(), 2);
        Check.due("sevens of a first part that an escape fills", x.byteOf(0, 1), 160);
        Check.due("sevens of the second part", x.byteOf(1, 1), 16);
    }

    private static void partsByPairs() {
        TextParts x = new TextParts();
        Check.putMany(x, 1000, 71);
        Check.due("make() of 71", x.make(), 2);
        Check.due("length(0)", x.length(0), 142);
        Check.dueText("second part", Check.bytes(x, 1), "[5, 14, 5, 0, 3, 0, 2, 2, 3, 232, 3, 232, 3, 232, 3, 232]");
    }

    private static void cutsBetweenHalves() {
        // The units on both sides of where 67 units would end, and how many the first part has.
        int[][] due = {{55296, 56320, 66}, {56319, 57343, 66}, {55295, 56320, 67}, {56320, 55296, 67},
            {56319, 57344, 67}, {55296, 55296, 67}, {56320, 56320, 67}, {55296, 97, 67}};
        for (int[] row : due) {
            TextParts x = new TextParts();
            Check.putMany(x, 1000, 66);
            Check.puts(x, row[0], row[1]);
            Check.putMany(x, 1000, 10);
            Check.due("make()", x.make(), 2);
            Check.due("bytes with " + row[0] + " and " + row[1], x.byteOf(0, 1), 6 + 2 * row[2]);
            Check.due("bytes behind that", x.byteOf(1, 1), 6 + 2 * (78 - row[2]));
        }
        // By the alphabet one unit is never cut, and by pairs an escape counts as any unit.
        TextParts x = new TextParts();
        Check.putMany(x, 8364, 80);
        x.put(1000);
        Check.due("make()", x.make(), 2);
        Check.due("bytes of escapes by pairs", x.byteOf(0, 1), 140);
    }

    private static void references() {
        TextParts x = new TextParts();
        Check.putMany(x, 1000, 71);
        for (int k = 0; k < 258; k++) {
            Check.due("next reference", x.about(3), k % 256);
            x.make();
            if (k > 250 || k < 5) {
                Check.due("reference of the first part", x.byteOf(0, 5), k % 256);
                Check.due("reference of the second part", x.byteOf(1, 5), k % 256);
            }
        }
        x.clear();
        x.make();
        Check.due("one part uses none", x.about(3), 2);
    }

    private static void newPartsReplaceOld() {
        TextParts x = new TextParts();
        Check.putMany(x, 122, 400);
        Check.due("make()", x.make(), 3);
        x.alter(0, 0, 9);
        x.clear();
        Check.puts(x, 64, 64);
        Check.due("parts made stay until make()", x.about(4), 3);
        Check.due("make()", x.make(), 1);
        Check.dueText("nothing of the old part is left", Check.bytes(x, 0), "[0, 2, 0, 0]");
        Check.refused("length(1)", IllegalArgumentException.class, () -> x.length(1));
    }

    private static void length() {
        TextParts x = new TextParts();
        Check.putMany(x, 97, 161);
        x.make();
        Check.due("length(1)", x.length(1), 16);
        for (int wrong : new int[] {-1, 2, 255, Integer.MIN_VALUE, Integer.MAX_VALUE}) {
            Check.refusedUnchanged("length(" + wrong + ")", x, IllegalArgumentException.class, () -> x.length(wrong));
        }
    }

    private static void byteOf() {
        TextParts x = new TextParts();
        Check.puts(x, 97, 98);
        x.make();
        Check.due("byteOf(0, 3)", x.byteOf(0, 3), 49);
        Check.due("byteOf(0, 4)", x.byteOf(0, 4), -1);
        Check.due("byteOf(0, 141)", x.byteOf(0, 141), -1);
        Check.due("byteOf(0, highest)", x.byteOf(0, Integer.MAX_VALUE), -1);
        Check.due("byteOf(0, -1)", x.byteOf(0, -1), -1);
        for (int wrong : new int[] {-1, 1, 255, Integer.MIN_VALUE, Integer.MAX_VALUE}) {
            Check.refusedUnchanged("byteOf(" + wrong + ", 0)", x, IllegalArgumentException.class,
                    () -> x.byteOf(wrong, 0));
        }
    }

    private static void alter() {
        TextParts x = new TextParts();
        Check.puts(x, 97, 98);
        x.make();
        Check.due("alter(0, 2, 255)", x.alter(0, 2, 255), 97);
        Check.due("alter(0, 2, 0)", x.alter(0, 2, 0), 255);
        Check.dueText("the part altered", Check.bytes(x, 0), "[0, 2, 0, 49]");
        x.alter(0, 1, 200);
        Check.due("length(0) stays", x.length(0), 4);
        Check.due("the text stays", x.about(2), 2);
        int[][] wrong = {{-1, 0, 0}, {1, 0, 0}, {0, -1, 0}, {0, 4, 0}, {0, 0, -1}, {0, 0, 256},
            {0, Integer.MAX_VALUE, 0}, {Integer.MIN_VALUE, 0, 0}};
        for (int[] row : wrong) {
            Check.refusedUnchanged("alter(" + row[0] + ", " + row[1] + ", " + row[2] + ")", x,
                    IllegalArgumentException.class, () -> x.alter(row[0], row[1], row[2]));
        }
        x.make();
        Check.dueText("made anew", Check.bytes(x, 0), "[0, 2, 97, 49]");
    }
}
