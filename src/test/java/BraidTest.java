import java.util.ArrayList;
import java.util.Arrays;
import java.util.List;
import java.util.Random;

/**
 * Braids by lot. That a form is a form follows from the descents; that it is the form of what was told is looked at
 * by matrices with a number q modulo a prime, and where mirrors exchange neighbours by what braids do with free words.
 */
public final class BraidTest {
    private static final long PRIME = 2147483647L;
    private static final long Q = 1234567891L;
    private static final Random LOT = new Random(8);

    private final int n;
    private final int[][] bond;
    private final long[][][] mirror;
    private final long[][][] inverse;
    private int[] top;

    private BraidTest(int[][] bond) {
        n = bond.length;
        this.bond = bond;
        mirror = new long[n][][];
        inverse = new long[n][][];
        for (int s = 0; s < n; s++) {
            mirror[s] = matrix(s);
            inverse[s] = invert(mirror[s], s);
        }
    }

    public static void main(String[] args) {
        int[][] lines = {{}, {2}, {3}, {4}, {6}, {3, 3}, {3, 4}, {4, 3}, {2, 6}, {3, 2}, {3, 3, 3}, {4, 3, 3}, {3, 2, 4},
            {3, 4, 3}, {3, 3, 3, 3}, {6, 2, 3}, {2, 2, 2, 2}, {3, 2, 3, 3}, {3, 3, 4, 2}, {3, 4, 2, 6}};
        for (int[] bonds : lines) {
            BraidTest test = new BraidTest(line(bonds));
            test.relations();
            for (int i = 0; i < 25; i++) {
                test.told(i);
                test.same();
                test.rolled();
            }
        }
        int[][] star = line(3, 2, 2);
        for (int t = 1; t < 4; t++) {
            star[0][t] = 3;
            star[t][0] = 3;
        }
        BraidTest test = new BraidTest(star);
        test.relations();
        for (int i = 0; i < 25; i++) {
            test.told(i);
            test.same();
            test.rolled();
        }
        for (int i = 0; i < 400; i++) {
            free(2 + LOT.nextInt(3));
        }
        Check.end("BraidTest");
    }

    private static int[][] line(int... bonds) {
        int n = bonds.length + 1;
        int[][] all = new int[n][n];
        for (int[] row : all) {
            Arrays.fill(row, 2);
        }
        for (int s = 0; s + 1 < n; s++) {
            all[s][s + 1] = bonds[s];
            all[s + 1][s] = bonds[s];
        }
        return all;
    }

    private Bruhatry shop() {
        Bruhatry x = new Bruhatry();
        x.begin(n);
        for (int s = 0; s < n; s++) {
            for (int t = s + 1; t < n; t++) {
                x.bond(s, t, bond[s][t]);
            }
        }
        return x;
    }

    /** The mirror s makes e(s) to -e(s), and e(t) to q e(t) and some of e(s): so braids of bonds hold. */
    private long[][] matrix(int s) {
        long[][] m = new long[n][n];
        for (int t = 0; t < n; t++) {
            m[t][t] = t == s ? PRIME - 1 : Q;
            if (t != s) {
                int b = bond[s][t];
                long number = b == 2 ? 0 : b == 3 ? 1 : b == 4 ? 2 : 3;
                m[s][t] = s < t ? number : number == 0 ? 0 : Q;
            }
        }
        return m;
    }

    /** As (m + 1)(m - q) is 0, the inverse of m is (m + 1 - q) / q. */
    private long[][] invert(long[][] m, int s) {
        long byQ = power(Q, PRIME - 2);
        long[][] x = new long[n][n];
        for (int i = 0; i < n; i++) {
            for (int j = 0; j < n; j++) {
                long number = i == j ? m[i][j] + 1 + PRIME - Q : m[i][j];
                x[i][j] = number % PRIME * byQ % PRIME;
            }
        }
        return x;
    }

    private static long power(long base, long times) {
        long x = 1;
        long square = base % PRIME;
        for (long left = times; left > 0; left /= 2) {
            x = left % 2 == 1 ? x * square % PRIME : x;
            square = square * square % PRIME;
        }
        return x;
    }

    private long[][] times(long[][] a, long[][] b) {
        long[][] x = new long[n][n];
        for (int i = 0; i < n; i++) {
            for (int j = 0; j < n; j++) {
                for (int k = 0; k < n; k++) {
                    x[i][j] = (x[i][j] + a[i][k] * b[k][j]) % PRIME;
                }
            }
        }
        return x;
    }

    private long[][] one() {
        long[][] x = new long[n][n];
        for (int i = 0; i < n; i++) {
            x[i][i] = 1;
        }
        return x;
    }

    private long[][] ofSteps(int... steps) {
        long[][] x = one();
        for (int step : steps) {
            x = times(x, step >= 0 ? mirror[step] : inverse[-1 - step]);
        }
        return x;
    }

    private static int[] turned(int[] word) {
        int[] x = new int[word.length];
        for (int i = 0; i < x.length; i++) {
            x[i] = -1 - word[word.length - 1 - i];
        }
        return x;
    }

    private void due(String what, long[][] got, long[][] want) {
        Check.due(what, Arrays.deepToString(got), Arrays.deepToString(want));
    }

    private void relations() {
        Bruhatry x = shop();
        top = letters(x, x.longest());
        for (int s = 0; s < n; s++) {
            due("inverse", times(mirror[s], inverse[s]), one());
            for (int t = 0; t < s; t++) {
                long[][] a = one();
                long[][] b = one();
                for (int i = 0; i < bond[s][t]; i++) {
                    a = times(a, mirror[i % 2 == 0 ? s : t]);
                    b = times(b, mirror[i % 2 == 0 ? t : s]);
                }
                due("bond", a, b);
            }
        }
    }

    private static int[] letters(Bruhatry x, int element) {
        int[] word = new int[x.length(element)];
        for (int i = 0; i < word.length; i++) {
            word[i] = x.letter(element, i);
        }
        return word;
    }

    private int[] someSteps(int most, int kind) {
        int[] steps = new int[LOT.nextInt(most + 1)];
        for (int i = 0; i < steps.length; i++) {
            int s = LOT.nextInt(n);
            boolean isInverse = kind % 3 == 0 ? LOT.nextBoolean() : kind % 3 == 1 ? LOT.nextInt(6) == 0 : i < 3;
            steps[i] = isInverse ? -1 - s : s;
        }
        return steps;
    }

    /** The words of the factors, each numbered as an element, if there is room. */
    private static List<int[]> factors(Bruhatry x, int braid) {
        List<int[]> all = new ArrayList<>();
        for (int i = 0; i < x.factors(braid); i++) {
            all.add(letters(x, x.factor(braid, i)));
        }
        return all;
    }

    private long[][] ofForm(int power, List<int[]> factors) {
        long[][] x = one();
        for (int i = 0; i < Math.abs(power); i++) {
            x = times(x, ofSteps(power > 0 ? top : turned(top)));
        }
        for (int[] factor : factors) {
            x = times(x, ofSteps(factor));
        }
        return x;
    }

    private void isForm(Bruhatry x, int firstElement, int count) {
        for (int i = firstElement; i < firstElement + count; i++) {
            Check.due("factor is not 1 or the longest", x.length(i) > 0 && x.length(i) < top.length, true);
            if (i > firstElement) {
                Check.due("descents", x.descents(i, true) & ~x.descents(i - 1, false), 0);
            }
        }
    }

    private void told(int kind) {
        Bruhatry x = shop();
        int[] steps = someSteps(16, kind);
        int braid = Check.addBraid(x, steps);
        List<int[]> factors = factors(x, braid);
        isForm(x, 0, factors.size());
        due("told", ofForm(x.powerOf(braid), factors), ofSteps(steps));
        Check.due("isSound", x.isSound(), true);
    }

    /** The same braid in other words, and another one. */
    private void same() {
        Bruhatry x = shop();
        int[] steps = someSteps(8, LOT.nextInt(3));
        int[] other = new int[steps.length + 2];
        int at = LOT.nextInt(steps.length + 1);
        int s = LOT.nextInt(n);
        for (int i = 0; i < other.length; i++) {
            other[i] = i < at ? steps[i] : i == at ? s : i == at + 1 ? -1 - s : steps[i - 2];
        }
        int a = Check.addBraid(x, steps);
        int b = Check.addBraid(x, other);
        other[at] = -1 - s;
        int c = Check.addBraid(x, other);
        Check.due("areBraids", x.areBraids(a, b), true);
        Check.due("areBraids", x.areBraids(a, c), false);
        Check.due("areBraids", x.areBraids(c, c), true);
        for (int t = 0; t < n; t++) {
            if (t != s && bond[s][t] < 7) {
                int[] one = new int[bond[s][t]];
                int[] two = new int[bond[s][t]];
                for (int i = 0; i < one.length; i++) {
                    one[i] = i % 2 == 0 ? s : t;
                    two[i] = i % 2 == 0 ? t : s;
                }
                x.begin(n);
                x = shop();
                Check.due("bond", x.areBraids(Check.addBraid(x, one), Check.addBraid(x, two)), true);
            }
        }
    }

    private void rolled() {
        Bruhatry x = shop();
        int[] steps = someSteps(7, 2);
        int braid = Check.addBraid(x, steps);
        int copy = Check.addBraid(x, steps);
        int best = x.powerOf(braid);
        int summit = x.summit(braid);
        Check.due("it stays", x.areBraids(braid, copy), true);
        List<String> seen = new ArrayList<>();
        for (int i = 0; i < 4000; i++) {
            if (x.elements() > 12) {
                x = shop();
                Check.addBraid(x, steps);
                for (int k = 0; k < i; k++) {
                    x.cycle(0);
                }
            }
            int power = x.powerOf(braid);
            int first = x.elements();
            List<int[]> factors = factors(x, braid);
            isForm(x, first, factors.size());
            StringBuilder key = new StringBuilder().append(power);
            for (int[] factor : factors) {
                key.append(Arrays.toString(factor));
            }
            best = Math.max(best, power);
            if (seen.contains(key.toString())) {
                break;
            }
            seen.add(key.toString());
            long[][] before = ofForm(power, factors);
            Check.due("cycle", x.cycle(braid), x.powerOf(braid));
            if (i < 6) {
                Bruhatry y = shop();
                Check.addBraid(y, steps);
                for (int k = 0; k <= i; k++) {
                    y.cycle(0);
                }
                long[][] after = ofForm(y.powerOf(0), factors(y, 0));
                // To cycle is to take off, from ahead, what the first one is behind the power, and to put it behind.
                if (!factors.isEmpty()) {
                    long[][] turned = times(times(ofForm(power, new ArrayList<>()), ofSteps(factors.get(0))),
                            ofForm(-power, new ArrayList<>()));
                    due("cycled", times(turned, after), times(before, turned));
                } else {
                    due("nothing to cycle", after, before);
                }
            }
        }
        Check.due("summit", summit, best);
    }

    /** What braids do with the letters of a free group tells them apart: letters 1 on, and below 0 their inverses. */
    private static void free(int mirrors) {
        Bruhatry x = new Bruhatry();
        x.begin(mirrors);
        for (int s = 0; s + 1 < mirrors; s++) {
            x.bond(s, s + 1, 3);
        }
        int[] steps = new int[LOT.nextInt(11)];
        for (int i = 0; i < steps.length; i++) {
            steps[i] = LOT.nextInt(mirrors) - (LOT.nextInt(3) == 0 ? mirrors : 0);
        }
        int braid = Check.addBraid(x, steps);
        List<List<Integer>> want = action(mirrors, steps);
        int[] top = letters(x, x.longest());
        List<Integer> form = new ArrayList<>();
        for (int i = 0; i < Math.abs(x.powerOf(braid)); i++) {
            for (int step : x.powerOf(braid) > 0 ? top : turned(top)) {
                form.add(step);
            }
        }
        for (int[] factor : factors(x, braid)) {
            for (int step : factor) {
                form.add(step);
            }
        }
        int[] all = form.stream().mapToInt(i -> i).toArray();
        Check.due("free words", action(mirrors, all).toString(), want.toString());
    }

    private static List<List<Integer>> action(int mirrors, int[] steps) {
        List<List<Integer>> now = new ArrayList<>();
        for (int i = 1; i <= mirrors + 1; i++) {
            now.add(new ArrayList<>(List.of(i)));
        }
        // The last step is put into the words first, so that rows behind each other are products.
        for (int k = steps.length - 1; k >= 0; k--) {
            for (int i = 0; i < now.size(); i++) {
                now.set(i, replaced(now.get(i), steps[k]));
            }
        }
        return now;
    }

    private static List<Integer> replaced(List<Integer> word, int step) {
        List<Integer> x = new ArrayList<>();
        for (int letter : word) {
            int[] by = image(Math.abs(letter), step);
            for (int i = 0; i < by.length; i++) {
                int next = letter > 0 ? by[i] : -by[by.length - 1 - i];
                if (!x.isEmpty() && x.get(x.size() - 1) == -next) {
                    x.remove(x.size() - 1);
                } else {
                    x.add(next);
                }
            }
        }
        return x;
    }

    private static int[] image(int letter, int step) {
        int s = (step >= 0 ? step : -1 - step) + 1;
        if (step >= 0) {
            return letter == s ? new int[] {s, s + 1, -s} : letter == s + 1 ? new int[] {s} : new int[] {letter};
        }
        return letter == s ? new int[] {s + 1} : letter == s + 1 ? new int[] {-s - 1, s, s + 1} : new int[] {letter};
    }
}
