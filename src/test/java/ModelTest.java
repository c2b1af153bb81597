import java.util.ArrayList;
import java.util.Arrays;
import java.util.HashMap;
import java.util.List;
import java.util.Map;
import java.util.Random;

/** Long runs of calls, each answer next to that of a second writing of the document, plain and slow. */
public final class ModelTest {
    private static final int RUNS = 3000;
    private static final int CALLS = 512;

    public static void main(String[] args) {
        for (int run = 0; run < RUNS; run++) {
            new Run(run).go();
        }
        Check.finish("ModelTest");
    }

    /** The document once more: rows of bits are texts of 0s and 1s, the lowest first. */
    private static final class Model {
        private static final Map<Integer, Integer> PLAIN = new HashMap<>();
        private static final Map<Integer, Integer> ESCAPED = new HashMap<>();

        static {
            for (int n = 33; n <= 90; n++) {
                PLAIN.put(n, n);
            }
            for (int n = 97; n <= 122; n++) {
                PLAIN.put(n, n);
            }
            int[] plain = {10, 10, 13, 13, 32, 32, 36, 2, 64, 0, 95, 17, 163, 1, 165, 3, 232, 4, 233, 5, 167, 95,
                228, 123, 246, 124, 252, 126};
            for (int k = 0; k < plain.length; k += 2) {
                PLAIN.put(plain[k], plain[k + 1]);
            }
            int[] escaped = {94, 20, 123, 40, 125, 41, 92, 47, 91, 60, 126, 61, 93, 62, 124, 64, 8364, 101};
            for (int k = 0; k < escaped.length; k += 2) {
                ESCAPED.put(escaped[k], escaped[k + 1]);
            }
        }

        private static final class Pile {
            int sender;
            int reference;
            List<Integer>[] texts;
            long touched;

            int there() {
                return (int) Arrays.stream(texts).filter(t -> t != null).count();
            }
        }

        private final List<Integer> text = new ArrayList<>();
        private List<int[]> made = new ArrayList<>();
        private final List<Integer> hand = new ArrayList<>();
        private final List<Pile> piles = new ArrayList<>();
        private List<Integer> latest = new ArrayList<>();
        private int reference;
        private long clock;

        private static String bits(int n, int count) {
            StringBuilder s = new StringBuilder();
            for (int k = 0; k < count; k++) {
                s.append(n >> k & 1);
            }
            return s.toString();
        }

        private static int number(String bits) {
            return Integer.parseInt(new StringBuilder(bits).reverse().toString(), 2);
        }

        private boolean byAlphabet() {
            return text.stream().allMatch(u -> PLAIN.containsKey(u) || ESCAPED.containsKey(u));
        }

        /** The text in what belongs together, each one as bits. */
        private List<String> groups() {
            List<String> all = new ArrayList<>();
            boolean sevens = byAlphabet();
            for (int i = 0; i < text.size(); i++) {
                int u = text.get(i);
                if (sevens) {
                    all.add(PLAIN.containsKey(u) ? bits(PLAIN.get(u), 7) : bits(27, 7) + bits(ESCAPED.get(u), 7));
                } else if (u / 1024 == 54 && i + 1 < text.size() && text.get(i + 1) / 1024 == 55) {
                    i++;
                    all.add(pair(u) + pair(text.get(i)));
                } else {
                    all.add(pair(u));
                }
            }
            return all;
        }

        private static String pair(int u) {
            return bits(u >> 8, 8) + bits(u & 255, 8);
        }

        private List<String> cut() {
            boolean sevens = byAlphabet();
            List<String> groups = groups();
            String whole = String.join("", groups);
            List<String> cuts = new ArrayList<>();
            if (whole.length() <= (sevens ? 160 * 7 : 140 * 8)) {
                cuts.add(whole);
                return cuts;
            }
            String part = "";
            for (String group : groups) {
                if (part.length() + group.length() > (sevens ? 153 * 7 : 134 * 8)) {
                    cuts.add(part);
                    part = "";
                }
                part += group;
            }
            cuts.add(part);
            return cuts;
        }

        private int sevens() {
            return byAlphabet() ? String.join("", groups()).length() / 7 : -1;
        }

        int make() {
            boolean sevens = byAlphabet();
            List<String> cuts = cut();
            List<int[]> parts = new ArrayList<>();
            for (int k = 0; k < cuts.size(); k++) {
                String bits = cuts.get(k);
                boolean headed = cuts.size() > 1;
                if (headed) {
                    String header = "";
                    for (int b : new int[] {5, 0, 3, reference, cuts.size(), k + 1}) {
                        header += bits(b, 8);
                    }
                    bits = header + (sevens ? "0" : "") + bits;
                }
                int second = bits.length() / (sevens ? 7 : 8);
                bits = bits + "0".repeat((8 - bits.length() % 8) % 8);
                int[] part = new int[2 + bits.length() / 8];
                part[0] = (headed ? 1 : 0) + (sevens ? 0 : 4);
                part[1] = second;
                for (int i = 2; i < part.length; i++) {
                    part[i] = number(bits.substring(8 * i - 16, 8 * i - 8));
                }
                parts.add(part);
            }
            made = parts;
            if (parts.size() > 1) {
                reference = reference == 255 ? 0 : reference + 1;
            }
            return parts.size();
        }

        @SuppressWarnings("unchecked")
        int accept(int sender, int[] b) {
            int fault = fault(b);
            if (fault != 0) {
                return fault;
            }
            List<Integer> units = units(b);
            if (b[0] % 4 == 0) {
                latest = units;
                return 1;
            }
            Pile pile = null;
            for (Pile p : piles) {
                if (p.sender == sender && p.reference == b[5] && p.texts.length == b[6]) {
                    pile = p;
                }
            }
            if (pile == null) {
                if (piles.size() == 16) {
                    piles.remove(piles.stream().min((p, q) -> Long.compare(p.touched, q.touched)).get());
                }
                pile = new Pile();
                pile.sender = sender;
                pile.reference = b[5];
                pile.texts = new List[b[6]];
                piles.add(pile);
            }
            if (pile.texts[b[7] - 1] != null) {
                return 0;
            }
            pile.texts[b[7] - 1] = units;
            pile.touched = ++clock;
            if (pile.there() < pile.texts.length) {
                return 0;
            }
            latest = new ArrayList<>();
            for (List<Integer> t : pile.texts) {
                latest.addAll(t);
            }
            piles.remove(pile);
            return 1;
        }

        private static String contents(int[] b) {
            StringBuilder s = new StringBuilder();
            for (int i = 2; i < b.length; i++) {
                s.append(bits(b[i], 8));
            }
            return s.toString();
        }

        private static int fault(int[] b) {
            if (b.length < 2) {
                return -1;
            }
            if (b[0] != 0 && b[0] != 1 && b[0] != 4 && b[0] != 5) {
                return -2;
            }
            boolean sevens = b[0] < 4;
            boolean headed = b[0] % 4 == 1;
            int needed = sevens ? b[1] - b[1] / 8 : b[1];
            if (b[1] > (sevens ? 160 : 140) || b.length - 2 != needed) {
                return -3;
            }
            if (headed) {
                if (b[1] < (sevens ? 7 : 6) || b[2] != 5 || b[3] != 0 || b[4] != 3) {
                    return -4;
                }
                if (b[6] == 0 || b[7] == 0 || b[7] > b[6]) {
                    return -4;
                }
            }
            if (!sevens) {
                return b[1] % 2 == 1 ? -5 : 0;
            }
            String bits = contents(b);
            boolean stray = bits.substring(7 * b[1]).contains("1") || (headed && bits.charAt(48) == '1');
            return stray ? -6 : 0;
        }

        private static List<Integer> units(int[] b) {
            boolean headed = b[0] % 4 == 1;
            String bits = contents(b);
            List<Integer> units = new ArrayList<>();
            if (b[0] >= 4) {
                for (int i = headed ? 8 : 2; i < b.length; i += 2) {
                    units.add(b[i] * 256 + b[i + 1]);
                }
                return units;
            }
            List<Integer> sevens = new ArrayList<>();
            for (int k = headed ? 7 : 0; k < b[1]; k++) {
                sevens.add(number(bits.substring(7 * k, 7 * k + 7)));
            }
            while (!sevens.isEmpty()) {
                int seven = sevens.remove(0);
                if (seven != 27) {
                    units.add(back(PLAIN, seven, 63));
                } else if (sevens.isEmpty()) {
                    units.add(32);
                } else {
                    int behind = sevens.remove(0);
                    units.add(back(ESCAPED, behind, back(PLAIN, behind, 63)));
                }
            }
            return units;
        }

        private static int back(Map<Integer, Integer> sevens, int seven, int otherwise) {
            for (Map.Entry<Integer, Integer> e : sevens.entrySet()) {
                if (e.getValue() == seven) {
                    return e.getKey();
                }
            }
            return otherwise;
        }

        private static void need(boolean right) {
            if (!right) {
                throw new IllegalArgumentException();
            }
        }

        private static void needSender(int sender) {
            need(sender >= 0 && sender < 1000);
        }

        private int[] part(int part) {
            need(part >= 0 && part < made.size());
            return made.get(part);
        }

        int put(int unit) {
            need(unit >= 0 && unit < 65536);
            text.add(unit);
            return text.size();
        }

        int clear() {
            int before = text.size();
            text.clear();
            return before;
        }

        int about(int what) {
            need(what >= 0 && what < 8);
            return what == 0 ? sevens() : what == 1 ? cut().size() : what == 2 ? text.size() : what == 3 ? reference
                    : what == 4 ? made.size() : what == 5 ? piles.size() : what == 6 ? latest.size() : hand.size();
        }

        int length(int part) {
            return part(part).length;
        }

        int byteOf(int part, int i) {
            int[] b = part(part);
            return i < 0 || i >= b.length ? -1 : b[i];
        }

        int take(int sender, int part) {
            needSender(sender);
            return accept(sender, part(part));
        }

        int alter(int part, int i, int b) {
            int[] row = part(part);
            need(i >= 0 && i < row.length && b >= 0 && b < 256);
            int before = row[i];
            row[i] = b;
            return before;
        }

        int feed(long w, int n) {
            need(n >= 0 && n <= 8);
            if (hand.size() + n > 200) {
                throw new IllegalStateException();
            }
            for (int k = 0; k < n; k++) {
                hand.add((int) (w >> 8 * k & 255));
            }
            return hand.size();
        }

        int read(int sender) {
            needSender(sender);
            int[] b = hand.stream().mapToInt(n -> n).toArray();
            hand.clear();
            return accept(sender, b);
        }

        int unit(int i) {
            return i < 0 || i >= latest.size() ? -1 : latest.get(i);
        }

        int heap(int i, int what) {
            need(what >= 0 && what < 4);
            if (i < 0 || i >= piles.size()) {
                return -1;
            }
            Pile p = piles.get(i);
            return what == 0 ? p.sender : what == 1 ? p.reference : what == 2 ? p.texts.length : p.there();
        }

        int forget(int sender) {
            needSender(sender);
            int before = piles.size();
            piles.removeIf(p -> p.sender == sender);
            return before - piles.size();
        }
    }

    /** One run of calls that its number settles. */
    private static final class Run {
        private static final int[] INTERESTING = {10, 13, 27, 32, 33, 36, 64, 65, 90, 91, 92, 93, 94, 95, 96, 97, 122, 123,
            124, 125, 126, 127, 163, 165, 167, 228, 232, 233, 246, 252, 8364};
        private static final int[] HALVES = {55295, 55296, 56000, 56319, 56320, 57000, 57343, 57344, 97};

        private static final int[] WILD = {Integer.MIN_VALUE, Integer.MIN_VALUE + 1, -65536, -256, -1, 0, 1, 255, 256, 1000,
            65536, 1 << 28, Integer.MAX_VALUE - 1, Integer.MAX_VALUE};

        private final int id;
        private final Random random;
        private final int kindOfText;
        private final int senders;
        private final TextParts x = new TextParts();
        private final Model model = new Model();
        private int calls;

        Run(int id) {
            this.id = id;
            random = new Random(id);
            kindOfText = id % 4;
            senders = id % 3 == 0 ? 2 : 24;
        }

        void go() {
            int first = random.nextInt(4) * 75;
            for (int k = 0; k < first; k++) {
                put(orWild(unit()));
            }
            while (calls < CALLS) {
                step();
            }
            Check.dueText("run " + id + ", the latest text", Check.latest(x), model.latest.toString());
        }

        private void same(String call, Check.Call real, Check.Call due) {
            calls++;
            Check.dueText("run " + id + ", call " + calls + ": " + call, Check.outcome(real), Check.outcome(due));
        }

        /** The number, or now and then one that is far from all that may be. */
        private int orWild(int n) {
            return random.nextInt(150) == 0 ? WILD[random.nextInt(WILD.length)] : n;
        }

        private int unit() {
            int chance = random.nextInt(200);
            if (chance == 0) {
                return random.nextInt(65540) - 2;
            }
            switch (kindOfText) {
                case 0:
                    return 97 + random.nextInt(26);
                case 1:
                    return INTERESTING[13 + random.nextInt(INTERESTING.length - 13)];
                case 2:
                    return HALVES[random.nextInt(HALVES.length)];
                default:
                    return INTERESTING[chance % INTERESTING.length] == 27 ? 97 : INTERESTING[chance % INTERESTING.length];
            }
        }

        private int sender() {
            return random.nextInt(60) == 0 ? random.nextInt(1100) - 50 : random.nextInt(senders);
        }

        private int part() {
            return random.nextInt(Math.max(1, model.made.size() + (random.nextInt(20) == 0 ? 2 : 0)))
                    - (random.nextInt(60) == 0 ? 1 : 0);
        }

        private void put(int unit) {
            same("put(" + unit + ")", () -> x.put(unit), () -> model.put(unit));
        }

        private void step() {
            int i = orWild(random.nextInt(160) - 2);
            int sender = orWild(sender());
            int part = orWild(part());
            switch (random.nextInt(14)) {
                case 0:
                    for (int k = random.nextInt(12); k > 0; k--) {
                        put(orWild(unit()));
                    }
                    break;
                case 1:
                    if (random.nextInt(12) == 0) {
                        same("clear()", x::clear, model::clear);
                    }
                    break;
                case 2:
                    int what = orWild(random.nextInt(10) - 1);
                    same("about(" + what + ")", () -> x.about(what), () -> model.about(what));
                    break;
                case 3:
                    if (random.nextInt(3) == 0) {
                        same("make()", x::make, model::make);
                    }
                    break;
                case 4:
                    same("length(" + part + ")", () -> x.length(part), () -> model.length(part));
                    break;
                case 5:
                    same("byteOf(" + part + ", " + i + ")", () -> x.byteOf(part, i), () -> model.byteOf(part, i));
                    break;
                case 6:
                case 7:
                case 8:
                    same("take(" + sender + ", " + part + ")", () -> x.take(sender, part), () -> model.take(sender, part));
                    break;
                case 9:
                    alter(part, random.nextInt(3) == 0 ? i : random.nextInt(9), random.nextInt(6));
                    break;
                case 10:
                    feedPart();
                    same("read(" + sender + ")", () -> x.read(sender), () -> model.read(sender));
                    break;
                case 11:
                    int unit = orWild(random.nextInt(400) - 2);
                    same("unit(" + unit + ")", () -> x.unit(unit), () -> model.unit(unit));
                    break;
                case 12:
                    int at = orWild(random.nextInt(19) - 1);
                    int asked = orWild(random.nextInt(20) == 0 ? random.nextInt(8) - 2 : random.nextInt(4));
                    same("heap(" + at + ", " + asked + ")", () -> x.heap(at, asked), () -> model.heap(at, asked));
                    break;
                default:
                    if (random.nextInt(6) == 0) {
                        same("forget(" + sender + ")", () -> x.forget(sender), () -> model.forget(sender));
                    }
                    break;
            }
        }

        private void alter(int part, int i, int kind) {
            int b = orWild(kind == 0 ? random.nextInt(260) - 2 : kind < 4 ? random.nextInt(6) : 1 << random.nextInt(8));
            same("alter(" + part + ", " + i + ", " + b + ")", () -> x.alter(part, i, b), () -> model.alter(part, i, b));
        }

        /** Bytes that are a part more often than not, eight or fewer to a call. */
        private void feedPart() {
            boolean sevens = random.nextBoolean();
            boolean headed = random.nextBoolean();
            int second = (headed ? 6 : 0) + random.nextInt(random.nextInt(8) == 0 ? 160 : 12);
            int follow = sevens ? second - second / 8 : second;
            int[] b = new int[2 + follow + (random.nextInt(12) == 0 ? 1 : 0)];
            for (int i = 2; i < b.length; i++) {
                b[i] = random.nextInt(3) == 0 ? 27 : random.nextInt(256);
            }
            b[0] = (headed ? 1 : 0) + (sevens ? 0 : 4);
            b[1] = second;
            int parts = 1 + random.nextInt(4);
            int[] header = {5, 0, 3, random.nextInt(3), parts, 1 + random.nextInt(parts)};
            for (int k = 0; headed && k < header.length && 2 + k < b.length; k++) {
                b[2 + k] = header[k];
            }
            if (sevens && headed && b.length > 8) {
                b[8] &= 254;
            }
            if (sevens && b.length > 2 && second % 8 != 0 && (!headed || b.length > 8)) {
                b[b.length - 1] &= 255 >> (8 * follow - 7 * second);
            }
            if (random.nextInt(10) == 0) {
                b[random.nextInt(b.length)] ^= 1 << random.nextInt(8);
            }
            feedBytes(b);
        }

        private void feedBytes(int[] b) {
            for (int from = 0; from < b.length; from += 8) {
                int n = Math.min(8, b.length - from);
                long w = random.nextLong();
                for (int k = n - 1; k >= 0; k--) {
                    w = w << 8 | b[from + k];
                }
                long fed = w;
                same("feed(" + fed + ", " + n + ")", () -> x.feed(fed, n), () -> model.feed(fed, n));
            }
            if (random.nextInt(30) == 0) {
                int n = orWild(random.nextInt(13) - 2);
                same("feed(0, " + n + ")", () -> x.feed(0L, n), () -> model.feed(0L, n));
            }
        }
    }
}
