import java.util.ArrayList;
import java.util.Arrays;
import java.util.HashMap;
import java.util.List;
import java.util.Map;
import java.util.Random;
import java.util.stream.IntStream;

/**
 * The number of words of every element whose length is at most 12. To count them the class lists the beginnings of the
 * element and has room for 1200; that there are no more is shown here for all bonds of five mirrors.
 *
 * The search goes on from the elements of one length to those of the next one, and leaves out what can't have more than
 * 1200 beginnings at length 12, as a mirror s behind w at most doubles them: the beginnings u of w s that have the last
 * root b of w s among their roots become, with the reflection of b ahead, beginnings of w, no two of them the same.
 */
public final class WordsTest {
    private static final int ROOM = 1200;
    private static final int LONGEST = 12;
    private static final int ALL_BONDS = 9765625;
    private static final int[] BONDS = {2, 3, 4, 6, 0};
    private static final int[][] NAMES = names();
    private static final Random LOT = new Random(12);

    public static void main(String[] args) {
        int[] counts = IntStream.range(0, ALL_BONDS).parallel().filter(told -> isFirstName(digits(told)))
                .map(told -> new Search(digits(told)).length(ROOM)).collect(() -> new int[LONGEST + 1],
                        (all, length) -> all[length]++, WordsTest::add);
        Check.due("bonds by all names", Arrays.stream(counts).sum(), 90005);
        Check.due("elements of length 12 with more beginnings than there is room for", counts[LONGEST], 0);
        // It ends well before: two kinds of bonds have elements of length 8 from which there might be such ones.
        Check.due("greatest length that the search reaches", Arrays.toString(counts),
                "[0, 0, 0, 0, 4146, 63333, 21849, 675, 2, 0, 0, 0, 0]");
        most();
        doubled();
        for (int[] bonds : new int[][] {{}, {2}, {6}, {3, 3}, {4, 3}, {3, 3, 3}, {2, 6, 2}, {4, 3, 2}}) {
            every(line(bonds), 1);
        }
        every(line(3, 4, 3), 12);
        every(line(3, 3, 4), 5);
        every(line(3, 3, 3, 3), 9);
        every(line(6, 2, 6, 2), 4);
        for (int i = 0; i < 120; i++) {
            longOnes(someBonds(2 + LOT.nextInt(4)));
        }
        Check.end("WordsTest");
    }

    private static void add(int[] all, int[] others) {
        for (int i = 0; i < all.length; i++) {
            all[i] += others[i];
        }
    }

    /** The two groups whose longest element has the length 12 and 288 beginnings, the most that there are. */
    private static void most() {
        Bruhatry a = Check.line(3, 3, 2, 6);
        Check.due("20 words of the most beginnings", a.words(a.longest()), 29568);
        Bruhatry b = Check.line(3, 4, 2, 3);
        Check.due("20 words of the most beginnings", b.words(b.longest()), 18480);
        Bruhatry c = Check.line(3, 2, 4, 3);
        Check.due("20 words of the most beginnings, other names", c.words(c.longest()), 18480);
        for (int[] bonds : new int[][] {{3, 3, 2, 6}, {3, 4, 2, 3}}) {
            Oracle o = new Oracle(line(bonds));
            List<Integer> word = new ArrayList<>();
            Oracle.El w = o.one;
            for (int s = 0; s < o.n; s++) {
                if (!o.isRight(w, s)) {
                    w = o.times(w, o.mirror[s]);
                    word.add(s);
                    s = -1;
                }
            }
            Map<String, Long> counts = new HashMap<>();
            count(o, w, counts);
            Check.due("the most beginnings", counts.size(), 288);
            Check.due("its length", word.size(), LONGEST);
        }
    }

    /** How many beginnings an element has, and with a mirror behind: no more than twice as many. */
    private static void doubled() {
        for (int i = 0; i < 400; i++) {
            int[] digits = new int[10];
            for (int k = 0; k < 10; k++) {
                digits[k] = LOT.nextInt(3) == 0 ? LOT.nextInt(5) : LOT.nextInt(2);
            }
            Search search = new Search(digits);
            long[] row = {1, 1, 1, 1, 1};
            int before = 1;
            for (int size = 0; size < LONGEST; size++) {
                int s = LOT.nextInt(5);
                if (row[s] > 0) {
                    search.turn(row, s);
                    int now = search.beginnings(row, 0, 4000);
                    Check.due("at most twice as many", now > before && now <= 2 * before, true);
                    before = now;
                }
            }
        }
    }

    /** By the words of all elements that are one mirror shorter. */
    private static long count(Oracle o, Oracle.El w, Map<String, Long> counts) {
        Long known = counts.get(w.key);
        if (known != null) {
            return known;
        }
        long sum = w.key.equals(o.one.key) ? 1 : 0;
        for (int s = 0; s < o.n; s++) {
            if (o.isRight(w, s)) {
                sum += count(o, o.times(w, o.mirror[s]), counts);
            }
        }
        counts.put(w.key, sum);
        return sum;
    }

    /** All elements of a group, or each so many'th one; those that are too long are refused. */
    private static void every(int[][] bond, int each) {
        Oracle o = new Oracle(bond);
        Map<String, Long> counts = new HashMap<>();
        Bruhatry x = shop(bond);
        int at = 0;
        for (Oracle.El w : o.ball(Integer.MAX_VALUE, ROOM).values()) {
            at++;
            if (at % each == 0) {
                x = x.elements() == 24 ? shop(bond) : x;
                asked(x, o, o.firstWord(w), w, counts);
            }
        }
    }

    private static void asked(Bruhatry x, Oracle o, List<Integer> word, Oracle.El w, Map<String, Long> counts) {
        int element = Check.add(x, word.stream().mapToInt(s -> s).toArray());
        if (x.length(element) > LONGEST) {
            Check.due("20 too long", Twin.answer(x, y -> y.words(element)), "UnsupportedOperationException");
        } else {
            Check.due("20 words of " + word, x.words(element), count(o, w, counts));
        }
    }

    /** Elements of length 9 to 12 of bonds by lot: mirrors behind that make them longer. */
    private static void longOnes(int[][] bond) {
        Oracle o = new Oracle(bond);
        Bruhatry x = shop(bond);
        for (int i = 0; i < 8; i++) {
            Oracle.El w = o.one;
            List<Integer> word = new ArrayList<>();
            for (int tries = 0; tries < 60 && word.size() < 9 + i % 4; tries++) {
                int s = LOT.nextInt(o.n);
                if (!o.isRight(w, s)) {
                    w = o.times(w, o.mirror[s]);
                    word.add(s);
                }
            }
            asked(x, o, word, w, new HashMap<>());
        }
    }

    private static int[][] line(int... bonds) {
        int n = bonds.length + 1;
        int[][] all = new int[n][n];
        for (int[] row : all) {
            Arrays.fill(row, 2);
        }
        for (int s = 0; s + 1 < n; s++) {
            all[s][s + 1] = bonds[s];
            all[s + 1][s] = bonds[s];
        }
        return all;
    }

    private static int[][] someBonds(int n) {
        int[][] all = new int[n][n];
        int weight = 1 + LOT.nextInt(3);
        for (int s = 0; s < n; s++) {
            for (int t = s + 1; t < n; t++) {
                all[s][t] = LOT.nextInt(4) < weight ? BONDS[LOT.nextInt(5)] : 2;
                all[t][s] = all[s][t];
            }
        }
        return all;
    }

    private static Bruhatry shop(int[][] bond) {
        Bruhatry x = Check.shop(bond.length);
        for (int s = 0; s < bond.length; s++) {
            for (int t = s + 1; t < bond.length; t++) {
                x.bond(s, t, bond[s][t]);
            }
        }
        return x;
    }

    /** Where each pair goes by each way to name five mirrors. */
    private static int[][] names() {
        List<int[]> all = new ArrayList<>();
        for (int told = 0; told < 3125; told++) {
            int[] name = {told % 5, told / 5 % 5, told / 25 % 5, told / 125 % 5, told / 625};
            if (Arrays.stream(name).distinct().count() == 5) {
                int[] pairs = new int[10];
                for (int s = 0; s < 5; s++) {
                    for (int t = s + 1; t < 5; t++) {
                        pairs[pair(s, t)] = pair(Math.min(name[s], name[t]), Math.max(name[s], name[t]));
                    }
                }
                all.add(pairs);
            }
        }
        return all.toArray(new int[0][]);
    }

    private static int pair(int low, int high) {
        return low * (7 - low) / 2 + high - 1;
    }

    private static int[] digits(int told) {
        int[] digits = new int[10];
        int left = told;
        for (int i = 0; i < 10; i++) {
            digits[i] = left % 5;
            left /= 5;
        }
        return digits;
    }

    /** Whether no other names make lesser digits of the same bonds. */
    private static boolean isFirstName(int[] digits) {
        for (int[] pairs : NAMES) {
            int i = 0;
            while (i < 9 && digits[pairs[i]] == digits[i]) {
                i++;
            }
            if (digits[pairs[i]] < digits[i]) {
                return false;
            }
        }
        return true;
    }

    /** Elements by rows of five numbers, as the class has them: below 0 at a mirror that is a right descent. */
    private static final class Search {
        private final int[] c = new int[25];
        private final Rows low = new Rows();

        Search(int[] digits) {
            for (int s = 0; s < 5; s++) {
                for (int t = s + 1; t < 5; t++) {
                    int bond = BONDS[digits[pair(s, t)]];
                    c[s * 5 + t] = bond == 2 ? 0 : bond == 3 ? -1 : bond == 6 ? -3 : -2;
                    c[t * 5 + s] = bond == 2 ? 0 : bond == 0 ? -2 : -1;
                }
            }
        }

        void turn(long[] row, int s) {
            long at = row[s];
            for (int t = 0; t < 5; t++) {
                row[t] = t == s ? -at : row[t] - c[t * 5 + s] * at;
            }
        }

        /** How many beginnings there are, or, if they are more than enough, some number above that. */
        int beginnings(long[] rows, int at, int enough) {
            low.clear();
            low.add(rows, at, -1, c);
            for (int i = 0; i < low.size && low.size <= enough; i++) {
                for (int s = 0; s < 5; s++) {
                    if (low.rows[i * 5 + s] < 0) {
                        low.add(low.rows, i * 5, s, c);
                    }
                }
            }
            return low.size;
        }

        /** The greatest length at which an element is left that might have more than so many at length 12. */
        int length(int room) {
            Rows now = new Rows();
            now.add(new long[] {1, 1, 1, 1, 1}, 0, -1, c);
            for (int length = 1; length <= LONGEST; length++) {
                Rows next = new Rows();
                int enough = room >> LONGEST - length;
                for (int i = 0; i < now.size * 5; i++) {
                    boolean isLonger = now.rows[i] > 0 && next.add(now.rows, i / 5 * 5, i % 5, c);
                    // An element has more beginnings than its length is, so that nothing is to be looked at first.
                    if (isLonger && enough > length && beginnings(next.rows, next.size * 5 - 5, enough) <= enough) {
                        next.removeLast();
                    }
                }
                if (next.size == 0) {
                    return length - 1;
                }
                now = next;
            }
            return LONGEST;
        }
    }

    /** Rows, each once. */
    private static final class Rows {
        private long[] rows = new long[5 * 64];
        private int[] slots = new int[256];
        private int[] slotOf = new int[64];
        private final long[] made = new long[5];
        private int size;

        void clear() {
            while (size > 0) {
                removeLast();
            }
        }

        void removeLast() {
            size--;
            slots[slotOf[size]] = 0;
        }

        /** Adds what the mirror s behind makes of a row (itself, if s is below 0); answers whether it is new. */
        boolean add(long[] from, int at, int s, int[] c) {
            long mixed = 0;
            for (int t = 0; t < 5; t++) {
                made[t] = s < 0 ? from[at + t] : t == s ? -from[at + s] : from[at + t] - c[t * 5 + s] * from[at + s];
                mixed = mixed * 1000003 + made[t];
            }
            int slot = slot(mixed);
            while (slots[slot] > 0) {
                if (Arrays.equals(rows, slots[slot] * 5 - 5, slots[slot] * 5, made, 0, 5)) {
                    return false;
                }
                slot = slot + 1 & slots.length - 1;
            }
            if (size == slotOf.length) {
                grow();
                return add(from, at, s, c);
            }
            System.arraycopy(made, 0, rows, size * 5, 5);
            slotOf[size] = slot;
            size++;
            slots[slot] = size;
            return true;
        }

        private int slot(long mixed) {
            return (int) (mixed ^ mixed >>> 15 ^ mixed >>> 31) & slots.length - 1;
        }

        private void grow() {
            rows = Arrays.copyOf(rows, rows.length * 2);
            slotOf = Arrays.copyOf(slotOf, slotOf.length * 2);
            slots = new int[slots.length * 2];
            for (int i = 0; i < size; i++) {
                long mixed = 0;
                for (int t = 0; t < 5; t++) {
                    mixed = mixed * 1000003 + rows[i * 5 + t];
                }
                int slot = slot(mixed);
                while (slots[slot] > 0) {
                    slot = slot + 1 & slots.length - 1;
                }
                slots[slot] = i + 1;
                slotOf[i] = slot;
            }
        }
    }
}
