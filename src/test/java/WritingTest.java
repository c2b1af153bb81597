/** Promises 2 to 4: put, clear, about. */
public final class WritingTest {
    public static void main(String[] args) {
        put();
        putWhenFull();
        clear();
        sevensOfEachUnit();
        partsOfSevens();
        partsOfPairs();
        partsOfTheLongestTexts();
        aboutTheRest();
        Check.finish("WritingTest");
    }

    private static void put() {
        TextParts x = new TextParts();
        Check.due("put(0)", x.put(0), 1);
        Check.due("put(65535)", x.put(65535), 2);
        for (int wrong : new int[] {-1, 65536, Integer.MIN_VALUE, Integer.MAX_VALUE}) {
            Check.refusedUnchanged("put(" + wrong + ")", x, IllegalArgumentException.class, () -> x.put(wrong));
        }
        Check.due("put(97)", x.put(97), 3);
        x.make();
        Check.dueText("the units put", Check.bytes(x, 0), "[4, 6, 0, 0, 255, 255, 0, 97]");
    }

    // Behind 512 calls nothing is promised; the edge is looked at all the same.
    private static void putWhenFull() {
        TextParts x = new TextParts();
        Check.putMany(x, 97, 2999);
        Check.due("unit number 3000", x.put(97), 3000);
        Check.refused("put(97) to 3000 units", IllegalStateException.class, () -> x.put(97));
        Check.refused("put(-1) to 3000 units", IllegalArgumentException.class, () -> x.put(-1));
        Check.due("units", x.about(2), 3000);
        Check.due("clear() of 3000 units", x.clear(), 3000);
        Check.due("put(97) behind it", x.put(97), 1);
    }

    private static void clear() {
        TextParts x = new TextParts();
        Check.puts(x, 97, 1000, 8364);
        x.make();
        x.take(7, 0);
        Check.due("clear()", x.clear(), 3);
        Check.due("clear() again", x.clear(), 0);
        Check.due("units", x.about(2), 0);
        Check.due("sevens: no unit from before counts", x.about(0), 0);
        Check.due("parts made stay", x.about(4), 1);
        Check.due("the latest text stays", x.about(6), 3);
        x.put(98);
        x.make();
        Check.dueText("a text behind clear()", Check.bytes(x, 0), "[0, 1, 98]");
    }

    private static void sevensOfEachUnit() {
        int[] other = {10, 13, 95, 163, 165, 232, 233, 167, 228, 246, 252};
        int[] escaped = {94, 123, 125, 92, 91, 126, 93, 124, 8364};
        TextParts x = new TextParts();
        for (int unit = 0; unit < 65536; unit++) {
            boolean one = (unit >= 32 && unit <= 90) || (unit >= 97 && unit <= 122) || has(other, unit);
            x.put(unit);
            Check.due("sevens of unit " + unit, x.about(0), one ? 1 : has(escaped, unit) ? 2 : -1);
            x.clear();
        }
        Check.puts(x, 97, 91, 97);
        Check.due("sevens", x.about(0), 4);
        x.put(96);
        Check.due("sevens with a unit that is not in the alphabet", x.about(0), -1);
        x.put(97);
        Check.due("sevens with one that is behind it", x.about(0), -1);
    }

    private static boolean has(int[] row, int n) {
        for (int one : row) {
            if (one == n) {
                return true;
            }
        }
        return false;
    }

    private static void partsOfSevens() {
        int[][] due = {{0, 1}, {1, 1}, {160, 1}, {161, 2}, {306, 2}, {307, 3}, {459, 3}, {460, 4}};
        for (int[] row : due) {
            TextParts x = new TextParts();
            Check.putMany(x, 97, row[0]);
            Check.due("parts of " + row[0] + " sevens", x.about(1), row[1]);
            Check.due("they use no reference", x.about(3), 0);
        }
        int[][] dueEscaped = {{80, 1}, {81, 2}, {152, 2}, {153, 3}, {228, 3}, {229, 4}};
        for (int[] row : dueEscaped) {
            TextParts x = new TextParts();
            Check.putMany(x, 8364, row[0]);
            Check.due("sevens of " + row[0] + " units with escapes", x.about(0), 2 * row[0]);
            Check.due("parts of " + row[0] + " units with escapes", x.about(1), row[1]);
        }
    }

    private static void partsOfPairs() {
        int[][] due = {{1, 1}, {70, 1}, {71, 2}, {134, 2}, {135, 3}, {201, 3}, {202, 4}};
        for (int[] row : due) {
            TextParts x = new TextParts();
            Check.putMany(x, 1000, row[0]);
            Check.due("parts of " + row[0] + " pairs", x.about(1), row[1]);
        }
        TextParts x = new TextParts();
        for (int k = 0; k < 66; k++) {
            Check.puts(x, 55296, 57343);
        }
        Check.due("parts of 132 units, two by two", x.about(1), 2);
        Check.puts(x, 56319, 56320);
        Check.due("parts of 134 units, two by two", x.about(1), 3);
    }

    // The longest texts make fewer parts than 255, so make() never finds more.
    private static void partsOfTheLongestTexts() {
        TextParts x = new TextParts();
        Check.putMany(x, 8364, 3000);
        Check.due("parts of 3000 escapes", x.about(1), 40);
        Check.due("make() of them", x.make(), 40);
        x.clear();
        for (int k = 0; k < 1500; k++) {
            Check.puts(x, 55296, 56320);
        }
        Check.due("parts of 3000 units, two by two", x.about(1), 46);
        Check.due("make() of them", x.make(), 46);
        int last = 0;
        for (int part = 0; part < 46; part++) {
            last = x.take(1, part);
        }
        Check.due("the last part is taken", last, 1);
        Check.due("units of the latest text", x.about(6), 3000);
        Check.due("the last unit", x.unit(2999), 56320);
    }

    private static void aboutTheRest() {
        TextParts x = new TextParts();
        Check.putMany(x, 97, 161);
        Check.due("make()", x.make(), 2);
        Check.due("next reference", x.about(3), 1);
        Check.due("parts made", x.about(4), 2);
        x.take(1, 1);
        x.take(2, 1);
        Check.due("heaps", x.about(5), 2);
        x.take(2, 0);
        Check.due("heaps", x.about(5), 1);
        Check.due("units of the latest text", x.about(6), 161);
        x.feed(0, 7);
        Check.due("bytes at hand", x.about(7), 7);
        for (int wrong : new int[] {-1, 8, Integer.MIN_VALUE, Integer.MAX_VALUE}) {
            Check.refusedUnchanged("about(" + wrong + ")", x, IllegalArgumentException.class, () -> x.about(wrong));
        }
    }
}
