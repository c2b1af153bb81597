import java.util.Arrays;

/** Short messages: texts made into parts, and parts of many senders put together again. */
public final class TextParts {
    public static final int NONE = -1;

    private static final int MOST_UNITS = 3000;
    private static final int HIGHEST_UNIT = 65535;
    private static final int HIGHEST_BYTE = 255;
    private static final int HIGHEST_SENDER = 999;
    private static final int MOST_PARTS = 255;
    private static final int MOST_HEAPS = 16;
    private static final int MOST_AT_HAND = 200;
    private static final int REFERENCES = 256;

    private static final int ALONE_SEVENS = 160;
    private static final int ALONE_BYTES = 140;
    private static final int HEADED_SEVENS = 153;
    private static final int HEADED_BYTES = 134;

    /** The two bytes before the contents: what kind of part it is, and how much it holds. */
    private static final int FRONT_BYTES = 2;
    private static final int HEADER_BYTES = 6;
    private static final int HEADER_SEVENS = 7;
    private static final int HEADER_BIT = 1;
    private static final int PAIRS_BIT = 4;

    private final Text text;
    private final Message made;
    private final Row atHand;
    private final Inbox inbox;
    private int nextReference;

    public TextParts() {
        text = new Text();
        made = new Message();
        atHand = new Row(MOST_AT_HAND);
        inbox = new Inbox();
        nextReference = 0;
    }

    public int put(int unit) throws IllegalArgumentException, IllegalStateException {
        if (unit < 0 || unit > HIGHEST_UNIT) {
            throw new IllegalArgumentException("a unit is 0 .. 65535");
        }
        if (text.count >= MOST_UNITS) {
            throw new IllegalStateException("the text is full");
        }
        text.append(unit);
        return text.count;
    }

    public int clear() {
        int before = text.count;
        text.empty();
        return before;
    }

    public int about(int what) throws IllegalArgumentException {
        switch (what) {
            case 0:
                return text.inAlphabet() ? text.sevens : NONE;
            case 1:
                return text.partCount();
            case 2:
                return text.count;
            case 3:
                return nextReference;
            case 4:
                return made.partCount;
            case 5:
                return inbox.heapCount;
            case 6:
                return inbox.latestUnits();
            case 7:
                return atHand.size;
            default:
                throw new IllegalArgumentException("what is 0 .. 7");
        }
    }

    public int make() throws UnsupportedOperationException {
        int parts = text.partCount();
        if (parts == 0) {
            throw new UnsupportedOperationException("more than 255 parts");
        }
        made.build(text, parts, nextReference);
        if (parts > 1) {
            nextReference = (nextReference + 1) % REFERENCES;
        }
        return parts;
    }

    public int length(int part) throws IllegalArgumentException {
        Row row = made.rowOf(part);
        if (row == null) {
            throw new IllegalArgumentException("no such part");
        }
        return row.size;
    }

    public int byteOf(int part, int i) throws IllegalArgumentException {
        Row row = made.rowOf(part);
        if (row == null) {
            throw new IllegalArgumentException("no such part");
        }
        return row.byteAt(i);
    }

    public int take(int sender, int part) throws IllegalArgumentException {
        Row row = made.rowOf(part);
        if (row == null || !isSender(sender)) {
            throw new IllegalArgumentException("no such part or sender");
        }
        return inbox.accept(sender, row);
    }

    public int alter(int part, int i, int b) throws IllegalArgumentException {
        Row row = made.rowOf(part);
        if (row == null || row.byteAt(i) == NONE || b < 0 || b > HIGHEST_BYTE) {
            throw new IllegalArgumentException("no such part or byte");
        }
        int before = row.byteAt(i);
        row.setByte(i, b);
        return before;
    }

    public int feed(long w, int n) throws IllegalArgumentException, IllegalStateException {
        if (n < 0 || n > 8) {
            throw new IllegalArgumentException("n is 0 .. 8");
        }
        if (atHand.size + n > MOST_AT_HAND) {
            throw new IllegalStateException("more than 200 bytes at hand");
        }
        for (int k = 0; k < n; k++) {
            atHand.append((int) (w >>> (8 * k)) & HIGHEST_BYTE);
        }
        return atHand.size;
    }

    public int read(int sender) throws IllegalArgumentException {
        if (!isSender(sender)) {
            throw new IllegalArgumentException("a sender is 0 .. 999");
        }
        int answer = inbox.accept(sender, atHand);
        atHand.restart(0);
        return answer;
    }

    public int unit(int i) {
        return inbox.latestUnit(i);
    }

    public int heap(int i, int what) throws IllegalArgumentException {
        if (what < 0 || what > 3) {
            throw new IllegalArgumentException("what is 0 .. 3");
        }
        return inbox.aboutHeap(i, what);
    }

    public int forget(int sender) throws IllegalArgumentException {
        if (!isSender(sender)) {
            throw new IllegalArgumentException("a sender is 0 .. 999");
        }
        return inbox.dropSender(sender);
    }

    private static boolean isSender(int sender) {
        return sender >= 0 && sender <= HIGHEST_SENDER;
    }

    private static int bytesForSevens(int sevens) {
        return (7 * sevens + 7) / 8;
    }

    /** Which units have sevens, and what sevens read back. */
    private static final class Alphabet {
        static final int ESCAPE = 27;
        private static final int UNKNOWN = 63;
        private static final int SPACE = 32;

        private static final int[] OTHER_UNITS = {36, 64, 95, 163, 165, 232, 233, 167, 228, 246, 252};
        private static final int[] OTHER_SEVENS = {2, 0, 17, 1, 3, 4, 5, 95, 123, 124, 126};
        private static final int[] ESCAPED_UNITS = {94, 123, 125, 92, 91, 126, 93, 124, 8364};
        private static final int[] ESCAPED_SEVENS = {20, 40, 41, 47, 60, 61, 62, 64, 101};

        /** How many sevens a unit takes; 0 if it is not in the alphabet. */
        static int sevensFor(int unit) {
            if (plainSeven(unit) != NONE) {
                return 1;
            }
            return escapedSeven(unit) != NONE ? 2 : 0;
        }

        static int plainSeven(int unit) {
            return isItsOwnSeven(unit) ? unit : partner(OTHER_UNITS, OTHER_SEVENS, unit);
        }

        static int escapedSeven(int unit) {
            return partner(ESCAPED_UNITS, ESCAPED_SEVENS, unit);
        }

        static int plainUnit(int seven) {
            int unit = isItsOwnSeven(seven) ? seven : partner(OTHER_SEVENS, OTHER_UNITS, seven);
            return unit == NONE ? UNKNOWN : unit;
        }

        /** What an escape with this seven behind it reads; NONE for the seven if it was the last. */
        static int escapedUnit(int seven) {
            if (seven == NONE) {
                return SPACE;
            }
            int unit = partner(ESCAPED_SEVENS, ESCAPED_UNITS, seven);
            return unit == NONE ? plainUnit(seven) : unit;
        }

        private static boolean isItsOwnSeven(int n) {
            if (n == 36 || n == 64) {
                return false;
            }
            return n == 10 || n == 13 || (n >= 32 && n <= 90) || (n >= 97 && n <= 122);
        }

        private static int partner(int[] from, int[] to, int n) {
            for (int k = 0; k < from.length && k < to.length; k++) {
                if (from[k] == n) {
                    return to[k];
                }
            }
            return NONE;
        }
    }

    /** The text that is being written, and where its message would be cut. */
    private static final class Text {
        final int[] units = new int[MOST_UNITS];
        int count;
        int sevens;
        private int outsiders;

        void append(int unit) {
            if (count >= units.length) {
                return;
            }
            units[count] = unit;
            count++;
            int needed = Alphabet.sevensFor(unit);
            sevens += needed;
            if (needed == 0) {
                outsiders++;
            }
        }

        void empty() {
            count = 0;
            sevens = 0;
            outsiders = 0;
        }

        boolean inAlphabet() {
            return outsiders == 0;
        }

        /** How many parts the message has; 0 if they are more than there may be. */
        int partCount() {
            if (fitsAlone()) {
                return 1;
            }
            int from = 0;
            for (int parts = 0; parts <= MOST_PARTS; parts++) {
                if (from >= count) {
                    return parts;
                }
                from = partEnd(from);
            }
            return 0;
        }

        /** Where the part with a header that begins at a unit ends. */
        int partEnd(int from) {
            return inAlphabet() ? sevensEnd(from) : pairsEnd(from);
        }

        int sevensBetween(int from, int to) {
            int sum = 0;
            for (int i = from; i < to; i++) {
                sum += Alphabet.sevensFor(unitAt(i));
            }
            return sum;
        }

        int unitAt(int i) {
            return i >= 0 && i < count ? units[i] : NONE;
        }

        private boolean fitsAlone() {
            return inAlphabet() ? sevens <= ALONE_SEVENS : 2 * count <= ALONE_BYTES;
        }

        private int sevensEnd(int from) {
            int room = HEADED_SEVENS;
            for (int i = from; i < count; i++) {
                room -= Alphabet.sevensFor(unitAt(i));
                if (room < 0) {
                    return i;
                }
            }
            return count;
        }

        private int pairsEnd(int from) {
            int end = from + HEADED_BYTES / 2;
            if (end >= count) {
                return count;
            }
            return isHigh(unitAt(end - 1)) && isLow(unitAt(end)) ? end - 1 : end;
        }

        private static boolean isHigh(int unit) {
            return unit >= 55296 && unit <= 56319;
        }

        private static boolean isLow(int unit) {
            return unit >= 56320 && unit <= 57343;
        }
    }

    /** Bytes in a row that is made once and used again. */
    private static final class Row {
        private final int[] bytes;
        int size;

        Row(int most) {
            bytes = new int[most];
        }

        /** From now on it has this many bytes, all 0. */
        void restart(int newSize) {
            Arrays.fill(bytes, 0);
            size = Math.max(0, Math.min(newSize, bytes.length));
        }

        void append(int b) {
            if (size < bytes.length) {
                bytes[size] = b;
                size++;
            }
        }

        int byteAt(int i) {
            return i >= 0 && i < size ? bytes[i] : NONE;
        }

        void setByte(int i, int b) {
            if (i >= 0 && i < size) {
                bytes[i] = b;
            }
        }

        /** Seven number i of the contents. */
        int sevenAt(int i) {
            int at = FRONT_BYTES + 7 * i / 8;
            int both = byteOrZero(at) | byteOrZero(at + 1) << 8;
            return both >> (7 * i % 8) & 127;
        }

        /** Adds seven number i to contents that are 0 there. */
        void addSeven(int i, int seven) {
            int at = FRONT_BYTES + 7 * i / 8;
            int both = seven << (7 * i % 8);
            setByte(at, byteOrZero(at) | both & HIGHEST_BYTE);
            setByte(at + 1, byteOrZero(at + 1) | both >> 8);
        }

        boolean isBitSet(int bitOfContents) {
            return (byteOrZero(FRONT_BYTES + bitOfContents / 8) >> (bitOfContents % 8) & 1) == 1;
        }

        private int byteOrZero(int i) {
            return Math.max(0, byteAt(i));
        }
    }

    /** The parts made. */
    private static final class Message {
        private final Row[] rows = new Row[MOST_PARTS];
        int partCount;

        Row rowOf(int part) {
            return part >= 0 && part < partCount && part < rows.length ? rows[part] : null;
        }

        void build(Text text, int parts, int reference) {
            int from = 0;
            for (int k = 0; k < parts && k < rows.length; k++) {
                if (rows[k] == null) {
                    rows[k] = new Row(FRONT_BYTES + ALONE_BYTES);
                }
                boolean headed = parts > 1;
                int to = headed ? text.partEnd(from) : text.count;
                if (text.inAlphabet()) {
                    writeSevens(rows[k], text, from, to, headed);
                } else {
                    writePairs(rows[k], text, from, to, headed);
                }
                if (headed) {
                    writeHeader(rows[k], reference, parts, k + 1);
                }
                from = to;
            }
            partCount = parts;
        }

        private static void writeSevens(Row row, Text text, int from, int to, boolean headed) {
            int place = headed ? HEADER_SEVENS : 0;
            int sevens = place + text.sevensBetween(from, to);
            row.restart(FRONT_BYTES + bytesForSevens(sevens));
            row.setByte(0, headed ? HEADER_BIT : 0);
            row.setByte(1, sevens);
            for (int i = from; i < to; i++) {
                int unit = text.unitAt(i);
                int seven = Alphabet.plainSeven(unit);
                if (seven == NONE) {
                    row.addSeven(place, Alphabet.ESCAPE);
                    place++;
                    seven = Alphabet.escapedSeven(unit);
                }
                row.addSeven(place, seven);
                place++;
            }
        }

        private static void writePairs(Row row, Text text, int from, int to, boolean headed) {
            int place = headed ? HEADER_BYTES : 0;
            int contents = place + 2 * (to - from);
            row.restart(FRONT_BYTES + contents);
            row.setByte(0, headed ? PAIRS_BIT + HEADER_BIT : PAIRS_BIT);
            row.setByte(1, contents);
            for (int i = from; i < to; i++) {
                row.setByte(FRONT_BYTES + place, text.unitAt(i) >> 8);
                row.setByte(FRONT_BYTES + place + 1, text.unitAt(i) & HIGHEST_BYTE);
                place += 2;
            }
        }

        private static void writeHeader(Row row, int reference, int parts, int number) {
            row.setByte(FRONT_BYTES, 5);
            row.setByte(FRONT_BYTES + 1, 0);
            row.setByte(FRONT_BYTES + 2, 3);
            row.setByte(FRONT_BYTES + 3, reference);
            row.setByte(FRONT_BYTES + 4, parts);
            row.setByte(FRONT_BYTES + 5, number);
        }
    }

    /** What the bytes of a part say, or why they can't be read. */
    private static final class PartReader {
        boolean headed;
        int reference;
        int parts;
        int number;
        private boolean byPairs;
        private int held;
        /** A room for any part's units, so that only those that are kept take an array of their own. */
        private final int[] units = new int[ALONE_SEVENS];

        /** The first fault that fits, below 0; 0 if there is none. */
        int faultOf(Row row) {
            if (row.size < FRONT_BYTES) {
                return -1;
            }
            int kind = row.byteAt(0);
            if (kind != (kind & (HEADER_BIT | PAIRS_BIT))) {
                return -2;
            }
            headed = (kind & HEADER_BIT) != 0;
            byPairs = (kind & PAIRS_BIT) != 0;
            held = row.byteAt(1);
            if (isWrongSize(row.size - FRONT_BYTES)) {
                return -3;
            }
            if (headed && isWrongHeader(row)) {
                return -4;
            }
            if (byPairs && held % 2 != 0) {
                return -5;
            }
            return !byPairs && hasStrayBits(row) ? -6 : 0;
        }

        /** The text of a part that has no fault. */
        int[] unitsOf(Row row) {
            int count = byPairs ? collectPairs(row) : collectSevens(row);
            return Arrays.copyOf(units, count);
        }

        private boolean isWrongSize(int following) {
            if (byPairs) {
                return held > ALONE_BYTES || following != held;
            }
            return held > ALONE_SEVENS || following != bytesForSevens(held);
        }

        private boolean isWrongHeader(Row row) {
            if (held < (byPairs ? HEADER_BYTES : HEADER_SEVENS)) {
                return true;
            }
            reference = row.byteAt(FRONT_BYTES + 3);
            parts = row.byteAt(FRONT_BYTES + 4);
            number = row.byteAt(FRONT_BYTES + 5);
            boolean marked = row.byteAt(FRONT_BYTES) == 5
                    && row.byteAt(FRONT_BYTES + 1) == 0
                    && row.byteAt(FRONT_BYTES + 2) == 3;
            return !marked || parts == 0 || number == 0 || number > parts;
        }

        private boolean hasStrayBits(Row row) {
            if (headed && row.isBitSet(8 * HEADER_BYTES)) {
                return true;
            }
            int end = 8 * bytesForSevens(held);
            for (int bit = 7 * held; bit < end; bit++) {
                if (row.isBitSet(bit)) {
                    return true;
                }
            }
            return false;
        }

        private int collectPairs(Row row) {
            int count = 0;
            for (int at = headed ? HEADER_BYTES : 0; at + 1 < held && count < units.length; at += 2) {
                units[count] = row.byteAt(FRONT_BYTES + at) << 8 | row.byteAt(FRONT_BYTES + at + 1);
                count++;
            }
            return count;
        }

        private int collectSevens(Row row) {
            int count = 0;
            for (int at = headed ? HEADER_SEVENS : 0; at < held && count < units.length; at++) {
                int seven = row.sevenAt(at);
                if (seven == Alphabet.ESCAPE) {
                    at++;
                    units[count] = Alphabet.escapedUnit(at < held ? row.sevenAt(at) : NONE);
                } else {
                    units[count] = Alphabet.plainUnit(seven);
                }
                count++;
            }
            return count;
        }
    }

    /** The text of one part that is kept. */
    private static final class Piece {
        final int[] units;

        Piece(int[] units) {
            this.units = units;
        }
    }

    /** The parts of one message that are there; when all are, it is the message's text. */
    private static final class Heap {
        final int sender;
        final int reference;
        private final Piece[] pieces;
        int there;
        int unitCount;
        int lastPut;

        Heap(int sender, int reference, int parts) {
            this.sender = sender;
            this.reference = reference;
            pieces = new Piece[Math.max(0, parts)];
        }

        boolean isOf(int aSender, int aReference, int parts) {
            return sender == aSender && reference == aReference && pieces.length == parts;
        }

        boolean isWhole() {
            return there == pieces.length;
        }

        /** Whether the part, the first one being number 1, was not there yet. */
        boolean add(int number, int[] units) {
            if (number < 1 || number > pieces.length || pieces[number - 1] != null) {
                return false;
            }
            pieces[number - 1] = new Piece(units);
            there++;
            unitCount += units.length;
            return true;
        }

        int unitAt(int i) {
            if (i < 0) {
                return NONE;
            }
            int left = i;
            for (Piece piece : pieces) {
                if (piece != null) {
                    if (left < piece.units.length) {
                        return piece.units[left];
                    }
                    left -= piece.units.length;
                }
            }
            return NONE;
        }

        int tell(int what) {
            switch (what) {
                case 0:
                    return sender;
                case 1:
                    return reference;
                case 2:
                    return pieces.length;
                default:
                    return there;
            }
        }
    }

    /** Heaps in the order in which they were begun, and the latest text. */
    private static final class Inbox {
        private final PartReader reader = new PartReader();
        private final Heap[] heaps = new Heap[MOST_HEAPS];
        int heapCount;
        private int puts;
        private Heap latest;

        /** 0 if the part is kept or dropped, 1 if a text is done by it, or the fault. */
        int accept(int sender, Row row) {
            int fault = reader.faultOf(row);
            if (fault != 0) {
                return fault;
            }
            int[] units = reader.unitsOf(row);
            if (reader.headed) {
                return keep(sender, units) ? 1 : 0;
            }
            latest = new Heap(sender, NONE, 1);
            latest.add(1, units);
            return 1;
        }

        int latestUnits() {
            return latest == null ? 0 : latest.unitCount;
        }

        int latestUnit(int i) {
            return latest == null ? NONE : latest.unitAt(i);
        }

        int aboutHeap(int i, int what) {
            if (i < 0 || i >= heapCount || i >= heaps.length || heaps[i] == null) {
                return NONE;
            }
            return heaps[i].tell(what);
        }

        int dropSender(int sender) {
            int before = heapCount;
            for (int i = before - 1; i >= 0; i--) {
                if (aboutHeap(i, 0) == sender) {
                    removeHeap(i);
                }
            }
            return before - heapCount;
        }

        /** Whether a text is done by the part. */
        private boolean keep(int sender, int[] units) {
            int at = placeOf(sender);
            if (at == NONE) {
                at = begin(sender);
            }
            Heap heap = heaps[at];
            if (heap == null || !heap.add(reader.number, units)) {
                return false;
            }
            puts++;
            heap.lastPut = puts;
            if (!heap.isWhole()) {
                return false;
            }
            removeHeap(at);
            latest = heap;
            return true;
        }

        private int placeOf(int sender) {
            for (int i = 0; i < heapCount && i < heaps.length; i++) {
                if (heaps[i] != null && heaps[i].isOf(sender, reader.reference, reader.parts)) {
                    return i;
                }
            }
            return NONE;
        }

        private int begin(int sender) {
            if (heapCount >= heaps.length) {
                removeHeap(longestUntouched());
            }
            int at = Math.max(0, Math.min(heapCount, heaps.length - 1));
            heaps[at] = new Heap(sender, reader.reference, reader.parts);
            heapCount = at + 1;
            return at;
        }

        private int longestUntouched() {
            int found = 0;
            for (int i = 1; i < heapCount && i < heaps.length; i++) {
                if (heaps[i] != null && heaps[found] != null && heaps[i].lastPut < heaps[found].lastPut) {
                    found = i;
                }
            }
            return found;
        }

        private void removeHeap(int at) {
            if (at < 0 || at >= heapCount || heapCount > heaps.length) {
                return;
            }
            for (int i = at; i + 1 < heapCount; i++) {
                heaps[i] = heaps[i + 1];
            }
            heapCount--;
            heaps[heapCount] = null;
        }
    }
}
