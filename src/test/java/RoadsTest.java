import java.util.ArrayList;
import java.util.Arrays;
import java.util.Collection;
import java.util.HashMap;
import java.util.List;
import java.util.Map;
import java.util.Random;

/**
 * Polynomials by other roads than the class takes, out of the class's own answers: P by the sum with R that the document
 * names and by mu, R by the inverse of T in the algebra, and products in the algebra by those of the reverses.
 * The oracle just multiplies elements here.
 */
public final class RoadsTest {
    private static final int DEGREE = 20;
    private static final int[] BONDS = {2, 3, 4, 6, 0};
    private static final Random LOT = new Random(48);

    private final Oracle oracle;
    private final Map<String, long[]> knownP = new HashMap<>();
    private final Map<String, long[]> knownR = new HashMap<>();
    private final Map<String, Long> knownMu = new HashMap<>();
    private final Map<String, Integer> lengths = new HashMap<>();
    private final Map<String, Integer> numbers = new HashMap<>();
    private Bruhatry shop;
    private int calls;

    private RoadsTest(int[][] bond) {
        oracle = new Oracle(bond);
        renew();
    }

    public static void main(String[] args) {
        int[][] lines = {{}, {2}, {3}, {4}, {6}, {2, 2}, {3, 2}, {2, 4}, {6, 2}, {3, 3}, {3, 2, 2}, {2, 2, 2}};
        for (int[] bonds : lines) {
            RoadsTest test = new RoadsTest(line(bonds));
            List<Oracle.El> all = new ArrayList<>(test.oracle.ball(Integer.MAX_VALUE, 24).values());
            for (Oracle.El y : all) {
                test.roads(y);
                test.inverse(y, all);
            }
            for (int i = 0; i < 60; i++) {
                test.turned(all.get(LOT.nextInt(all.size())), all.get(LOT.nextInt(all.size())), all);
            }
        }
        for (int i = 0; i < 40; i++) {
            RoadsTest test = new RoadsTest(someBonds(3 + i % 3));
            test.roads(test.someElement(4 + i % 5, 130));
        }
        RoadsTest greatest = new RoadsTest(triangle(6, 6, 0));
        Oracle.El y = greatest.oracle.of(List.of(1, 0, 2, 0, 1, 2, 0, 1));
        greatest.roads(y);
        Check.due("26 of the greatest power", greatest.p(greatest.oracle.one, y)[3], 1);
        Check.end("RoadsTest");
    }

    private static int[][] line(int... bonds) {
        int n = bonds.length + 1;
        int[][] all = new int[n][n];
        for (int[] row : all) {
            Arrays.fill(row, 2);
        }
        for (int s = 0; s + 1 < n; s++) {
            all[s][s + 1] = bonds[s];
            all[s + 1][s] = bonds[s];
        }
        return all;
    }

    private static int[][] triangle(int zeroOne, int zeroTwo, int oneTwo) {
        int[][] all = line(zeroOne, oneTwo);
        all[0][2] = zeroTwo;
        all[2][0] = zeroTwo;
        return all;
    }

    private static int[][] someBonds(int n) {
        int[][] all = line(new int[n - 1]);
        for (int s = 0; s < n; s++) {
            for (int t = s + 1; t < n; t++) {
                all[s][t] = LOT.nextInt(3) > 0 ? BONDS[LOT.nextInt(5)] : 2;
                all[t][s] = all[s][t];
            }
        }
        return all;
    }

    /** An element of at most this length with at most so many below. */
    private Oracle.El someElement(int most, int mostBelow) {
        Oracle.El w = oracle.one;
        for (int tries = 0; tries < 60 && oracle.length(w) < most; tries++) {
            int s = LOT.nextInt(oracle.n);
            Oracle.El longer = oracle.times(w, oracle.mirror[s]);
            w = oracle.isRight(w, s) || oracle.low(longer).size() > mostBelow ? w : longer;
        }
        return w;
    }

    /** A new workshop, as 512 calls are all that an object is for. */
    private void renew() {
        shop = Check.shop(oracle.n);
        calls = 2;
        numbers.clear();
        for (int s = 0; s < oracle.n; s++) {
            for (int t = s + 1; t < oracle.n; t++) {
                shop.bond(s, t, oracle.bond[s][t]);
                calls++;
            }
        }
    }

    /** Makes sure that there is room for some elements and calls. */
    private void need() {
        if (calls > 440 || shop.elements() > 20) {
            renew();
        }
    }

    private int number(Oracle.El w) {
        Integer known = numbers.get(w.key);
        if (known == null) {
            shop.erase();
            for (int s : oracle.firstWord(w)) {
                shop.type(s);
                calls++;
            }
            known = shop.element();
            calls += 2;
            numbers.put(w.key, known);
        }
        return known;
    }

    private int length(Oracle.El w) {
        return lengths.computeIfAbsent(w.key, key -> oracle.length(w));
    }

    private long[] p(Oracle.El x, Oracle.El y) {
        return knownP.computeIfAbsent(x.key + y.key, key -> {
            need();
            long[] all = new long[DEGREE];
            for (int k = 0; k < 5; k++) {
                all[k] = shop.p(number(x), number(y), k);
                calls++;
            }
            return all;
        });
    }

    private long[] r(Oracle.El x, Oracle.El y) {
        return knownR.computeIfAbsent(x.key + y.key, key -> {
            need();
            long[] all = new long[DEGREE];
            for (int k = 0; k < 10; k++) {
                all[k] = shop.r(number(x), number(y), k);
                calls++;
            }
            return all;
        });
    }

    private long mu(Oracle.El x, Oracle.El y) {
        return knownMu.computeIfAbsent(x.key + y.key, key -> {
            need();
            calls++;
            return shop.mu(number(x), number(y));
        });
    }

    private long[] algebra(Oracle.El one, Oracle.El two, Oracle.El of) {
        need();
        long[] all = new long[DEGREE];
        for (int k = 0; k < 10; k++) {
            all[k] = shop.algebra(number(one), number(two), number(of), k);
            calls++;
        }
        return all;
    }

    /** Adds a number times a product, times q to the power of some. */
    private static void add(long[] sum, long number, long[] one, long[] two, int power) {
        for (int i = 0; i < DEGREE; i++) {
            for (int j = 0; one[i] != 0 && i + j + power < DEGREE; j++) {
                sum[i + j + power] += number * one[i] * two[j];
            }
        }
    }

    private static long[] unit() {
        long[] one = new long[DEGREE];
        one[0] = 1;
        return one;
    }

    private static void due(String what, long[] got, long[] want) {
        Check.due(what, Arrays.toString(got), Arrays.toString(want));
    }

    private void roads(Oracle.El y) {
        Collection<Oracle.El> low = oracle.low(y).values();
        for (Oracle.El x : low) {
            long[] poly = p(x, y);
            int difference = length(y) - length(x);
            long[] sum = new long[DEGREE];
            for (Oracle.El z : low) {
                add(sum, 1, r(x, z), p(z, y), 0);
            }
            long[] turned = new long[DEGREE];
            for (int k = 0; k <= difference; k++) {
                turned[difference - k] = poly[k];
            }
            due("26 P by R", turned, sum);
            for (int k = 0; k < DEGREE; k++) {
                boolean mayBe = difference == 0 ? k == 0 : 2 * k <= difference - 1;
                Check.due("26 the degree of P", poly[k] == 0 || mayBe, true);
            }
            Check.due("26 P begins with 1", poly[0], 1);
            Check.due("27 mu", mu(x, y), difference % 2 == 0 ? 0 : poly[(difference - 1) / 2]);
            for (int s = 0; s < oracle.n; s++) {
                if (oracle.isRight(y, s)) {
                    byMu(x, y, s);
                }
            }
        }
    }

    /** P by that of the element without its last mirror, and by mu. */
    private void byMu(Oracle.El x, Oracle.El y, int s) {
        Oracle.El xs = oracle.times(x, oracle.mirror[s]);
        Oracle.El v = oracle.times(y, oracle.mirror[s]);
        boolean falls = oracle.isRight(x, s);
        long[] sum = new long[DEGREE];
        add(sum, 1, p(xs, v), unit(), falls ? 0 : 1);
        add(sum, 1, p(x, v), unit(), falls ? 1 : 0);
        for (Oracle.El z : oracle.low(v).values()) {
            if (oracle.isRight(z, s) && length(z) < length(v) && mu(z, v) != 0) {
                add(sum, -mu(z, v), p(x, z), unit(), (length(y) - length(z)) / 2);
            }
        }
        due("26 P by mu", p(x, y), sum);
        due("26 P is that of the mirror behind", p(x, y), p(xs, y));
    }

    private long sign(Oracle.El w) {
        return length(w) % 2 == 0 ? 1 : -1;
    }

    /** T of y in reverse, times the sum of R of x and y times T of x with the sign of x, is a power of q, and a sign. */
    private void inverse(Oracle.El y, List<Oracle.El> all) {
        Oracle.El back = oracle.back(y);
        for (Oracle.El z : all) {
            long[] sum = new long[DEGREE];
            for (Oracle.El x : oracle.low(y).values()) {
                add(sum, sign(x), r(x, y), algebra(back, x, z), 0);
            }
            long[] want = new long[DEGREE];
            want[length(y)] = length(z) == 0 ? sign(y) : 0;
            due("25 R by the algebra", sum, want);
        }
    }

    /** The product of two in reverse is that of the reverses, the other one first. */
    private void turned(Oracle.El a, Oracle.El b, List<Oracle.El> all) {
        for (Oracle.El z : all) {
            due("28 in reverse", algebra(a, b, z), algebra(oracle.back(b), oracle.back(a), oracle.back(z)));
        }
    }
}
