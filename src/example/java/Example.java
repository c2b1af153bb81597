/** A text becomes parts, an inbox puts them together again, and some bytes can't be read. */
public final class Example {
    public static void main(String[] args) {
        TextParts x = new TextParts();

        // A text is written unit by unit. It is long, so its message has two parts.
        tell("put(8364)", x.put(8364));
        for (int k = 1; k < 200; k++) {
            x.put('a');
        }
        tell("about(0), sevens of the text", x.about(0));
        tell("make()", x.make());
        tell("length(0)", x.length(0));
        tell("byteOf(0, 0)", x.byteOf(0, 0));
        tell("byteOf(0, 142), behind the part", x.byteOf(0, 142));

        // The inbox reads parts of sender 7 in any order; 1 tells that a text is done.
        tell("take(7, 1)", x.take(7, 1));
        tell("heap(0, 0), sender of the first heap", x.heap(0, 0));
        tell("take(7, 0)", x.take(7, 0));
        tell("about(6), units of the latest text", x.about(6));
        tell("unit(0)", x.unit(0));

        // Bytes from elsewhere, the lowest first: 4, 2, 0, 98 is a part by pairs, without a header.
        tell("feed(0x62000204, 4)", x.feed(0x62000204L, 4));
        tell("read(8)", x.read(8));
        tell("unit(0)", x.unit(0));

        // What can't be read is told by its fault, below 0: here no part begins with 9.
        tell("alter(1, 0, 9)", x.alter(1, 0, 9));
        tell("take(7, 1)", x.take(7, 1));

        // A number that is not as it may be is refused, and nothing is changed.
        try {
            x.take(1000, 0);
        } catch (IllegalArgumentException e) {
            System.out.println("take(1000, 0) throws IllegalArgumentException");
        }
    }

    private static void tell(String call, int answer) {
        System.out.println(call + " = " + answer);
    }
}
