/**
 * The sentences of the promises that name no boundary, or say more than one: what a call answers and what it
 * changes, call by call. No object here has more than 512 calls.
 */
final class SentencesOfPromises {
    private SentencesOfPromises() {
    }

    private static TextParts withUnits(int unit, int times) {
        TextParts x = new TextParts();
        Check.putMany(x, unit, times);
        return x;
    }

    static void putBehindTheText() {
        TextParts x = new TextParts();
        int[] units = {500, 0, 65535, 97, 500};
        for (int k = 0; k < units.length; k++) {
            Check.due("put(" + units[k] + ")", x.put(units[k]), k + 1);
        }
        x.make();
        Check.dueText("in their order", Check.bytes(x, 0), "[4, 10, 1, 244, 0, 0, 255, 255, 0, 97, 1, 244]");
        Check.due("put(98) behind make()", x.put(98), 6);
        Check.due("the parts made stay as they are", x.length(0), 12);
        Check.due("units", x.about(2), 6);
        x.make();
        Check.due("the text is still there", x.length(0), 14);
    }

    static void aboutSevensOfMore() {
        TextParts x = new TextParts();
        int[][] due = {{97, 1}, {8364, 3}, {10, 4}, {91, 6}, {64, 7}, {1000, -1}, {97, -1}};
        for (int[] row : due) {
            x.put(row[0]);
            Check.due("about(0) behind put(" + row[0] + ")", x.about(0), row[1]);
        }
        Check.due("about(2), the units", x.about(2), 7);
        x.clear();
        Check.due("about(0) of no text", x.about(0), 0);
        Check.due("about(2) of no text", x.about(2), 0);
    }

    static void aboutPartsThatWouldBe() {
        TextParts x = withUnits(97, 161);
        Check.due("about(1)", x.about(1), 2);
        Check.due("about(4), none is made by asking", x.about(4), 0);
        Check.due("about(3), no reference is used by asking", x.about(3), 0);
        x.put(1000);
        Check.due("about(1) by pairs", x.about(1), 3);
        x.clear();
        Check.due("about(1) of no text", x.about(1), 1);
    }

    static void aboutTheNextReference() {
        TextParts x = withUnits(1000, 71);
        for (int reference = 0; reference < 5; reference++) {
            Check.due("about(3)", x.about(3), reference);
            x.make();
            Check.due("it is the one that is used", x.byteOf(1, 5), reference);
        }
    }

    static void aboutPartsMade() {
        TextParts x = withUnits(97, 310);
        Check.due("about(4) before make()", x.about(4), 0);
        x.make();
        Check.due("about(4)", x.about(4), 3);
        x.clear();
        Check.due("about(4) behind clear()", x.about(4), 3);
        x.make();
        Check.due("about(4) of another message", x.about(4), 1);
    }

    static void aboutHeapsAndLatest() {
        TextParts x = new TextParts();
        Check.readHeaded(x, 1, 0, 2, 1, 500);
        Check.readHeaded(x, 2, 0, 2, 1, 600);
        Check.due("about(5)", x.about(5), 2);
        Check.due("about(6) before a text is done", x.about(6), 0);
        Check.readHeaded(x, 1, 0, 2, 2, 501);
        Check.due("about(5) when one is done", x.about(5), 1);
        Check.due("about(6), units and not parts", x.about(6), 2);
        Check.readAll(x, 3, Check.joined(new int[] {0, 4}, Check.packed(27, 101, 97, 97)));
        Check.due("about(6), units and not sevens", x.about(6), 3);
        x.forget(2);
        Check.due("about(5) behind forget()", x.about(5), 0);
        Check.due("about(6) behind forget()", x.about(6), 3);
    }

    static void aboutBytesAtHand() {
        TextParts x = new TextParts();
        x.feed(0L, 3);
        Check.due("about(7)", x.about(7), 3);
        x.feed(0L, 8);
        Check.due("about(7) of more", x.about(7), 11);
        x.make();
        x.take(0, 0);
        Check.due("about(7): take() needs none", x.about(7), 11);
        x.read(0);
        Check.due("about(7) behind read()", x.about(7), 0);
    }

    static void makeHowMany() {
        TextParts x = withUnits(97, 150);
        Check.due("make()", x.make(), 1);
        Check.due("units behind it", x.about(2), 150);
        Check.putMany(x, 97, 11);
        Check.due("make()", x.make(), 2);
        x.put(1000);
        Check.due("make() by pairs", x.make(), 3);
        Check.due("the next reference", x.about(3), 2);
        Check.due("heaps", x.about(5), 0);
        Check.due("bytes at hand", x.about(7), 0);
        Check.due("the last part's reference", x.byteOf(2, 5), 1);
        x.alter(0, 8, 77);
        Check.due("make() once more", x.make(), 3);
        Check.due("what was altered is in the place of another", x.byteOf(0, 8), 0);
        Check.due("the reference is another", x.byteOf(0, 5), 2);
    }

    static void takeAsItIs() {
        TextParts x = withUnits(1000, 71);
        x.make();
        x.clear();
        Check.putMany(x, 97, 3);
        x.alter(1, 5, 200);
        x.alter(1, 6, 9);
        x.alter(1, 7, 4);
        Check.due("take(12, 1)", x.take(12, 1), 0);
        Check.dueText("the heap that the altered header tells", Check.heap(x, 0), "12/200/9/1");
        x.alter(1, 0, 4);
        Check.due("take(12, 1) without its header", x.take(12, 1), 1);
        Check.dueText("its text, the header being three units of it", Check.latest(x),
                "[1280, 968, 2308, 1000, 1000, 1000, 1000]");
        Check.due("the part is still made", x.length(1), 16);
        Check.due("and is as it was", x.byteOf(1, 0), 4);
        Check.due("take(12, 1) once more", x.take(12, 1), 1);
        Check.due("the text that is written", x.about(2), 3);
        x.make();
        x.alter(0, 0, 1);
        Check.due("a fault", x.take(12, 0), -4);
        Check.dueText("a fault leaves the latest text", Check.latest(x), "[1280, 968, 2308, 1000, 1000, 1000, 1000]");
        Check.due("a fault leaves the heaps", x.about(5), 1);
    }

    static void alterWhatItWas() {
        TextParts x = withUnits(1000, 71);
        x.make();
        int[] was = {5, 14, 5, 0, 3, 0, 2, 2, 3, 232, 3, 232, 3, 232, 3, 232};
        for (int i = 0; i < was.length; i++) {
            Check.due("alter(1, " + i + ", ..)", x.alter(1, i, 100 + i), was[i]);
        }
        for (int i = 0; i < was.length; i++) {
            Check.due("byteOf(1, " + i + ")", x.byteOf(1, i), 100 + i);
        }
        Check.due("the same byte once more", x.alter(1, 3, 103), 103);
        Check.due("length(1)", x.length(1), 16);
        Check.due("the other part", x.byteOf(0, 1), 140);
        Check.due("parts made", x.about(4), 2);
    }

    static void feedHowMany() {
        TextParts x = new TextParts();
        Check.due("feed of 2", x.feed(0x0804L, 2), 2);
        Check.due("feed of 8", x.feed(0x8070605040302010L, 8), 10);
        Check.due("read(1)", x.read(1), 1);
        Check.dueText("in their order", Check.latest(x), "[" + 0x1020 + ", " + 0x3040 + ", " + 0x5060 + ", " + 0x7080 + "]");
        Check.due("feed behind read()", x.feed(0L, 1), 1);
    }

    /** Bytes that are fed are read as the same bytes are taken. */
    static void readAsTake() {
        int[][] parts = {{0, 3, 97, 98, 1}, {4, 3, 0, 97, 0}, {0, 3, 97, 98, 99}, {1, 3, 97, 98, 1}, {2, 3, 97, 98, 1},
            {0, 2, 97, 98, 1}, {4, 3, 1, 2, 3}};
        for (int[] part : parts) {
            TextParts taken = withUnits(97, 3);
            taken.make();
            for (int i = 0; i < part.length; i++) {
                taken.alter(0, i, part[i]);
            }
            TextParts read = new TextParts();
            int answer = Check.readAll(read, 44, part);
            Check.due("read(44)", answer, taken.take(44, 0));
            Check.dueText("the text read", Check.latest(read), Check.latest(taken));
        }
        TextParts x = withUnits(97, 161);
        x.make();
        Check.due("part 1, of what is made", x.take(8, 1), 0);
        int[] other = new int[142];
        for (int i = 0; i < other.length; i++) {
            other[i] = x.byteOf(0, i);
        }
        Check.due("part 0, read", Check.readAll(x, 8, other), 1);
        Check.due("units", x.about(6), 161);
    }
}
