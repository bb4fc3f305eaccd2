import java.util.ArrayList;
import java.util.List;
import java.util.Map;
import java.util.Random;

/** Many workshops with bonds and words by lot (always the same lot), each answer against the oracle's. */
public final class OracleTest {
    private static final int[] BONDS = {2, 3, 4, 6, 0};
    private static final char[] KINDS = {'l', 'r', 's'};
    private static final Random LOT = new Random(20261119);

    public static void main(String[] args) {
        for (int i = 0; i < 260; i++) {
            int[][] bonds = i < 70 ? someFinite(i) : someBonds(1 + LOT.nextInt(5), LOT.nextInt(4));
            elements(bonds, i % 3 == 0 ? 8 : 6);
        }
        for (int i = 0; i < 34; i++) {
            groups(someFinite(i));
        }
        for (int i = 0; i < 60; i++) {
            orders(someBonds(1 + LOT.nextInt(4), 1 + LOT.nextInt(3)));
        }
        for (int i = 0; i < 300; i++) {
            names(someBonds(1 + LOT.nextInt(5), 2), someBonds(5, 2));
        }
        for (int i = 0; i < 300; i++) {
            longWords(someBonds(2 + LOT.nextInt(4), 1 + LOT.nextInt(3)));
        }
        exchanges();
        greatestPowers(line(6, 0), 6, 1, 0, 2, 0, 1, 2, 0, 1);
        greatestPowers(line(4, 4), 6, 1, 0, 2, 1, 0, 2, 0, 1);
        greatestPowers(line(0, 2), 4, 0, 1, 0, 2, 1, 0, 1, 0);
        greatestPowers(line(6, 4), 2, 1, 0, 1, 2, 0, 1, 0, 1);
        Check.end("OracleTest");
    }

    private static int[][] line(int... bonds) {
        int n = bonds.length + 1;
        int[][] all = new int[n][n];
        for (int s = 0; s < n; s++) {
            for (int t = 0; t < n; t++) {
                all[s][t] = s == t ? 1 : t == s + 1 ? bonds[s] : s == t + 1 ? bonds[t] : 2;
            }
        }
        return all;
    }

    private static int[][] someFinite(int i) {
        int[][] lines = {{}, {2}, {3}, {4}, {6}, {3, 3}, {3, 4}, {4, 3}, {2, 6}, {3, 2}, {3, 3, 3}, {4, 3, 3}, {3, 2, 4},
            {3, 3, 3, 3}, {6, 2, 3}, {2, 2, 2, 2}, {3, 2, 3, 3}};
        int[][] bonds = line(lines[i % lines.length]);
        return i < lines.length ? bonds : renamed(bonds);
    }

    private static int[][] renamed(int[][] bonds) {
        int n = bonds.length;
        List<Integer> names = new ArrayList<>();
        for (int s = 0; s < n; s++) {
            names.add(LOT.nextInt(names.size() + 1), s);
        }
        int[][] all = new int[n][n];
        for (int s = 0; s < n; s++) {
            for (int t = 0; t < n; t++) {
                all[names.get(s)][names.get(t)] = bonds[s][t];
            }
        }
        return all;
    }

    /** The lower the weight, the more bonds are 2. */
    private static int[][] someBonds(int n, int weight) {
        int[][] all = new int[n][n];
        for (int s = 0; s < n; s++) {
            for (int t = s; t < n; t++) {
                int bond = LOT.nextInt(4) <= weight ? BONDS[LOT.nextInt(5)] : 2;
                all[s][t] = s == t ? 1 : bond;
                all[t][s] = all[s][t];
            }
        }
        return all;
    }

    private static Bruhatry shop(int[][] bonds) {
        Bruhatry x = new Bruhatry();
        x.begin(bonds.length);
        for (int s = 0; s < bonds.length; s++) {
            for (int t = s + 1; t < bonds.length; t++) {
                x.bond(t, s, bonds[s][t]);
            }
        }
        return x;
    }

    private static Oracle.El some(Oracle o, int most) {
        List<Integer> word = new ArrayList<>();
        int size = LOT.nextInt(most + 1);
        for (int i = 0; i < size; i++) {
            word.add(LOT.nextInt(o.n));
        }
        return o.of(word);
    }

    private static int put(Bruhatry x, Oracle o, Oracle.El w) {
        List<List<Integer>> words = o.words(w);
        x.erase();
        int spare = LOT.nextInt(o.n);
        for (int s : words.get(LOT.nextInt(words.size()))) {
            x.type(s);
        }
        x.type(spare);
        x.type(spare);
        return x.element();
    }

    private static void same(String what, Bruhatry x, int element, Oracle o, Oracle.El w) {
        Check.due(what, Check.form(x, element), o.form(w).toString());
    }

    private static void elements(int[][] bonds, int most) {
        Bruhatry x = shop(bonds);
        Oracle o = new Oracle(bonds);
        List<Oracle.El> all = new ArrayList<>();
        for (int i = 0; i < 5; i++) {
            all.add(some(o, most));
            if (i % 2 == 1) {
                List<Oracle.El> low = new ArrayList<>(o.low(all.get(i - 1)).values());
                all.set(i, low.get(LOT.nextInt(low.size())));
            }
            put(x, o, all.get(i));
        }
        for (int i = 0; i < all.size(); i++) {
            alone(x, o, i, all.get(i));
            for (int j = 0; j < all.size(); j++) {
                two(x, o, i, j, all);
            }
        }
        made(bonds, o, all);
        swallowed(x, o);
        Check.due("isSound", x.isSound(), true);
    }

    private static void alone(Bruhatry x, Oracle o, int i, Oracle.El w) {
        same("element", x, i, o, w);
        Check.due("length", x.length(i), o.length(w));
        Check.due("words", x.words(i), o.words(w).size());
        int left = 0;
        int right = 0;
        for (int s = 0; s < o.n; s++) {
            left |= o.isLeft(w, s) ? 1 << s : 0;
            right |= o.isRight(w, s) ? 1 << s : 0;
            for (int t = 0; t < o.n; t++) {
                Check.due("root", x.root(i, s, t), w.m[t][s]);
            }
        }
        Check.due("left descents", x.descents(i, true), left);
        Check.due("right descents", x.descents(i, false), right);
    }

    private static void two(Bruhatry x, Oracle o, int i, int j, List<Oracle.El> all) {
        Oracle.El a = all.get(i);
        Oracle.El b = all.get(j);
        Check.due("areSame", x.areSame(i, j), o.isSame(a, b));
        for (char kind : KINDS) {
            Check.due("isBelow " + kind, x.isBelow(i, j, kind), o.isBelow(a, b, kind));
            Check.due("between " + kind, x.between(i, j, kind), o.between(a, b, kind).size());
            Check.due("moebius " + kind, x.moebius(i, j, kind), o.moebius(a, b, kind));
        }
        long[] r = o.r(a, b);
        long[] p = o.p(a, b);
        for (int k = 0; k < 10; k++) {
            Check.due("r", x.r(i, j, k), r[k]);
            Check.due("p", x.p(i, j, k), p[k]);
        }
        int d = o.length(b) - o.length(a);
        Check.due("mu", x.mu(i, j), d > 0 && d % 2 == 1 ? p[(d - 1) / 2] : 0);
        var walls = o.parting(a);
        for (String wall : o.parting(b)) {
            if (!walls.remove(wall)) {
                walls.add(wall);
            }
        }
        Check.due("walls", x.walls(i, j), walls.size());
        Map<String, long[]> product = o.algebra(a, b);
        for (int of = 0; of < all.size(); of++) {
            long[] polynomial = product.getOrDefault(all.get(of).key, new long[Oracle.DEG]);
            for (int k = 0; k < 10; k++) {
                Check.due("algebra", x.algebra(i, j, of, k), polynomial[k]);
            }
        }
    }

    private static void made(int[][] bonds, Oracle o, List<Oracle.El> all) {
        for (Oracle.El a : all) {
            Bruhatry x = shop(bonds);
            int first = put(x, o, a);
            same("reverse", x, x.reverse(first), o, o.back(a));
            for (Oracle.El b : all) {
                same("product", x, x.product(first, put(x, o, b)), o, o.times(a, b));
            }
            for (int set = 0; set < 1 << o.n; set++) {
                if (x.elements() > 22) {
                    x = shop(bonds);
                    put(x, o, a);
                }
                Oracle.El[] parts = o.parts(a, set);
                same("part", x, x.part(0, set, true), o, parts[1]);
                same("rest", x, x.part(0, set, false), o, parts[0]);
            }
            int of = 0;
            Map<String, long[]> product = o.algebra(a, all.get(0));
            Bruhatry y = shop(bonds);
            put(y, o, a);
            put(y, o, all.get(0));
            for (String key : product.keySet()) {
                of++;
                if (of < 20) {
                    int at = put(y, o, find(o, a, all.get(0), key));
                    for (int k = 0; k < 9; k++) {
                        Check.due("algebra of what is there", y.algebra(0, 1, at, k), product.get(key)[k]);
                    }
                }
            }
        }
    }

    private static Oracle.El find(Oracle o, Oracle.El a, Oracle.El b, String key) {
        for (Oracle.El z : o.low(b).values()) {
            Oracle.El x = o.times(a, z);
            if (x.key.equals(key)) {
                return x;
            }
        }
        throw new IllegalStateException("no such element");
    }

    private static void swallowed(Bruhatry x, Oracle o) {
        for (int i = 0; i < 3; i++) {
            x.erase();
            Oracle.El w = o.one;
            for (int k = 0; k < 9; k++) {
                int s = LOT.nextInt(o.n);
                x.type(s);
                w = o.isRight(w, s) ? w : o.times(w, o.mirror[s]);
            }
            same("swallow", x, x.swallow(), o, w);
        }
    }

    /** A word of many letters: by lot, or growing with each letter, or such a one with some letters taken out. */
    private static List<Integer> someWord(Oracle o, int most, int kind) {
        List<Integer> word = new ArrayList<>();
        Oracle.El w = o.one;
        while (word.size() < most) {
            int s = LOT.nextInt(o.n);
            if (kind == 0 || !o.isRight(w, s) || o.length(w) == o.length(o.times(w, o.mirror[s])) + 1 && LOT.nextInt(30) == 0) {
                word.add(s);
                w = o.times(w, o.mirror[s]);
            } else if (LOT.nextInt(8) == 0) {
                break;
            }
        }
        if (kind == 2 && !word.isEmpty()) {
            word.remove(LOT.nextInt(word.size()));
        }
        return word;
    }

    private static void longWords(int[][] bonds) {
        Bruhatry x = shop(bonds);
        Oracle o = new Oracle(bonds);
        List<Oracle.El> all = new ArrayList<>();
        for (int i = 0; i < 5; i++) {
            List<Integer> word = someWord(o, i < 3 ? 24 + LOT.nextInt(7) : LOT.nextInt(16), LOT.nextInt(3));
            Oracle.El w = o.of(word);
            x.erase();
            for (int s : word) {
                x.type(s);
            }
            if (o.length(w) > 24) {
                Check.thrown("too long", x, UnsupportedOperationException.class, x::element);
                continue;
            }
            int at = x.element();
            all.add(w);
            Check.due("long form", Check.form(x, at), o.firstWord(w).toString());
            int back = x.reverse(at);
            all.add(o.back(w));
            Check.due("long reverse", Check.form(x, back), o.firstWord(o.back(w)).toString());
        }
        int size = all.size();
        for (int i = 0; i < size; i++) {
            for (int j = 0; j < size; j++) {
                longPair(x, o, i, j, all);
            }
        }
        Check.due("isSound", x.isSound(), true);
    }

    /** Whether the product of two is refused: the letters of the form of the second one lead above 30. */
    private static boolean isRefused(Oracle o, Oracle.El a, Oracle.El b) {
        Oracle.El now = a;
        for (int s : o.firstWord(b)) {
            now = o.times(now, o.mirror[s]);
            if (o.length(now) > 30) {
                return true;
            }
        }
        return false;
    }

    private static void longPair(Bruhatry x, Oracle o, int i, int j, List<Oracle.El> all) {
        Oracle.El a = all.get(i);
        Oracle.El b = all.get(j);
        if (isRefused(o, o.back(a), b)) {
            Check.thrown("walls refused", x, UnsupportedOperationException.class, () -> x.walls(i, j));
        } else {
            int walls = o.length(o.times(o.back(a), b));
            Check.due("long walls", x.walls(i, j), walls);
            Check.due("long right", x.isBelow(i, j, 'r'), walls == o.length(b) - o.length(a));
        }
        boolean isRefused = isRefused(o, a, b);
        if (isRefused || o.length(o.times(a, b)) > 24) {
            Check.thrown("product refused", x, UnsupportedOperationException.class, () -> x.product(i, j));
        } else if (x.elements() < 24) {
            Check.due("long product", Check.form(x, x.product(i, j)), o.firstWord(o.times(a, b)).toString());
            all.add(o.times(a, b));
        }
        if (o.length(b) <= 24) {
            boolean isStrong = x.isBelow(i, j, 's');
            Check.due("long strong", isStrong, isStrong(o, a, b));
        }
    }

    /** By descents of the upper one, from behind. */
    private static boolean isStrong(Oracle o, Oracle.El low, Oracle.El high) {
        Oracle.El a = low;
        Oracle.El b = high;
        for (int s = 0; s < o.n; s++) {
            if (o.isRight(b, s)) {
                a = o.isRight(a, s) ? o.times(a, o.mirror[s]) : a;
                b = o.times(b, o.mirror[s]);
                s = -1;
            }
        }
        return o.isSame(a, o.one);
    }

    private static void groups(int[][] bonds) {
        Bruhatry x = shop(bonds);
        Oracle o = new Oracle(bonds);
        Check.due("order", x.order(), o.order());
        Check.due("reflections", x.reflections(), o.mirrored().size());
        Map<Integer, Integer> growth = o.growth(6);
        int[] far = new int[6];
        for (int d : o.distances().values()) {
            far[d]++;
        }
        for (int k = 0; k <= 6; k++) {
            Check.due("growth", x.growth(k), growth.getOrDefault(k, 0));
            if (k <= 5) {
                Check.due("ofDistance", x.ofDistance(k), far[k]);
            }
        }
        Check.due("notCrossing", x.notCrossing(), o.notCrossing());
        if (o.n < 5) {
            List<List<Oracle.El>> chains = o.chains();
            Check.due("chains", x.chains(), chains.size());
            Check.due("chainParts", x.chainParts(), o.chainParts(chains));
        }
        List<Oracle.El> all = new ArrayList<>();
        for (int i = 0; i < 8; i++) {
            all.add(some(o, 8));
            int at = put(x, o, all.get(i));
            Check.due("distance", x.distance(at), o.distances().get(all.get(i).key));
            for (int j = 0; j <= i; j++) {
                Check.due("isBelow m", x.isBelow(j, at, 'm'), o.isBelowByMirrored(all.get(j), all.get(i)));
                Check.due("isBelow m", x.isBelow(at, j, 'm'), o.isBelowByMirrored(all.get(i), all.get(j)));
            }
        }
        int low = put(x, o, all.get(0));
        int top = x.longest();
        for (int s = 0; s < o.n; s++) {
            Check.due("longest", x.descents(top, true), (1 << o.n) - 1);
        }
        Check.due("longest", x.length(top), o.mirrored().size());
        Check.due("walls to the longest", x.walls(low, top), o.mirrored().size() - x.length(low));
    }

    private static void orders(int[][] bonds) {
        Bruhatry x = shop(bonds);
        Oracle o = new Oracle(bonds);
        Check.due("order", x.order(), o.order());
        Map<Integer, Integer> growth = o.growth(5);
        for (int k = 0; k <= 5; k++) {
            Check.due("growth", x.growth(k), growth.getOrDefault(k, 0));
        }
    }

    /** Words of length 8 with P of the power 3, the greatest one that there is. */
    private static void greatestPowers(int[][] bonds, int bondOfEnds, int... word) {
        bonds[0][2] = bondOfEnds;
        bonds[2][0] = bondOfEnds;
        Bruhatry x = shop(bonds);
        Oracle o = new Oracle(bonds);
        List<Oracle.El> all = new ArrayList<>();
        for (int size : new int[] {8, 0, 1, 3}) {
            List<Integer> letters = new ArrayList<>();
            for (int i = 0; i < size; i++) {
                letters.add(word[size == 8 ? i : 7 - i]);
            }
            all.add(o.of(letters));
            put(x, o, o.of(letters));
        }
        Check.due("length 8", x.length(0), 8);
        Check.due("power 3", x.p(1, 0, 3) > 0 || x.mu(2, 0) > 0, true);
        for (int i = 0; i < all.size(); i++) {
            for (int j = 0; j < all.size(); j++) {
                two(x, o, i, j, all);
            }
        }
    }

    private static long told(int[][] bonds) {
        long told = 0;
        for (int s = 0; s < 5; s++) {
            for (int t = s + 1; t < 5; t++) {
                int digit = LOT.nextInt(5);
                for (int i = 0; i < 5 && t < bonds.length; i++) {
                    digit = bonds[s][t] == BONDS[i] ? i : digit;
                }
                told = told * 10 + digit;
            }
        }
        return told;
    }

    private static void names(int[][] bonds, int[][] others) {
        Bruhatry x = shop(bonds);
        Oracle o = new Oracle(bonds);
        Check.due("isAlike renamed", x.isAlike(told(renamed(bonds))), true);
        Check.due("isAlike others", x.isAlike(told(others)), o.isAlike(others));
        int[][] near = renamed(bonds);
        if (o.n > 2) {
            int bond = near[0][1];
            near[0][1] = near[1][2];
            near[1][0] = near[1][2];
            near[1][2] = bond;
            near[2][1] = bond;
            Check.due("isAlike nearly", x.isAlike(told(near)), o.isAlike(near));
        }
    }

    private static void exchanges() {
        for (int n = 1; n <= 5; n++) {
            int[] threes = new int[n - 1];
            java.util.Arrays.fill(threes, 3);
            Oracle o = new Oracle(line(threes));
            Bruhatry x = shop(o.bond);
            for (Oracle.El w : o.ball(Integer.MAX_VALUE, 1200).values()) {
                if (n == 5 && LOT.nextInt(3) > 0) {
                    continue;
                }
                if (x.elements() == 24) {
                    x = shop(o.bond);
                }
                x.erase();
                for (int s : o.firstWord(w)) {
                    x.type(s);
                }
                exchange(x, x.element(), o, w);
            }
        }
    }

    private static void exchange(Bruhatry x, int at, Oracle o, Oracle.El w) {
        Check.due("long form", Check.form(x, at), o.firstWord(w).toString());
        int[] row = o.row(w);
        List<List<Integer>> tower = o.tower(w);
        for (int p = 0; p <= o.n; p++) {
            Check.due("brings", x.brings(at, p), row[p]);
            Check.due("tower", x.tower(at, p), p < tower.size() ? tower.get(p).size() : 0);
        }
        if (o.length(w) <= 10) {
            Check.due("pipes", x.pipes(at), o.pipes(w));
        }
    }
}
