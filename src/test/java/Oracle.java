import java.util.ArrayList;
import java.util.Arrays;
import java.util.HashMap;
import java.util.HashSet;
import java.util.LinkedHashMap;
import java.util.List;
import java.util.Map;
import java.util.Set;
import java.util.TreeMap;

/** The document's terms, taken word by word with matrices and full searches; for short elements only. */
final class Oracle {
    /** An element, by what it makes of each simple root (columns), and so for its reverse. */
    static final class El {
        final long[][] m;
        final long[][] inv;
        final String key;

        El(long[][] m, long[][] inv) {
            this.m = m;
            this.inv = inv;
            key = Arrays.deepToString(m);
        }
    }

    final int n;
    final int[][] bond;
    final long[][] c;
    final El one;
    final El[] mirror;
    private final Map<String, List<List<Integer>>> reduced = new HashMap<>();
    private final Map<String, Map<String, El>> lows = new HashMap<>();
    private final Map<String, long[]> rs = new HashMap<>();
    private final Map<String, long[]> ps = new HashMap<>();

    Oracle(int[][] bond) {
        n = bond.length;
        this.bond = bond;
        c = new long[n][n];
        for (int s = 0; s < n; s++) {
            c[s][s] = 2;
            for (int t = s + 1; t < n; t++) {
                int b = bond[s][t];
                c[s][t] = b == 2 ? 0 : b == 3 ? -1 : b == 4 ? -2 : b == 6 ? -3 : -2;
                c[t][s] = b == 2 ? 0 : b == 0 ? -2 : -1;
            }
        }
        long[][] id = new long[n][n];
        for (int s = 0; s < n; s++) {
            id[s][s] = 1;
        }
        one = new El(id, id);
        mirror = new El[n];
        for (int s = 0; s < n; s++) {
            long[][] m = new long[n][n];
            for (int t = 0; t < n; t++) {
                m[t][t] = 1;
            }
            for (int t = 0; t < n; t++) {
                m[s][t] -= c[t][s];
            }
            mirror[s] = new El(m, m);
        }
    }

    El times(El a, El b) {
        return new El(multiply(a.m, b.m), multiply(b.inv, a.inv));
    }

    El back(El a) {
        return new El(a.inv, a.m);
    }

    private long[][] multiply(long[][] a, long[][] b) {
        long[][] x = new long[n][n];
        for (int i = 0; i < n; i++) {
            for (int j = 0; j < n; j++) {
                for (int k = 0; k < n; k++) {
                    x[i][j] = Math.addExact(x[i][j], Math.multiplyExact(a[i][k], b[k][j]));
                }
            }
        }
        return x;
    }

    El of(List<Integer> word) {
        El x = one;
        for (int s : word) {
            x = times(x, mirror[s]);
        }
        return x;
    }

    boolean isRight(El w, int s) {
        for (int t = 0; t < n; t++) {
            if (w.m[t][s] > 0) {
                return false;
            }
        }
        return true;
    }

    boolean isLeft(El w, int s) {
        return isRight(back(w), s);
    }

    int length(El w) {
        int length = 0;
        El x = w;
        for (boolean isMore = true; isMore;) {
            isMore = false;
            for (int s = 0; s < n; s++) {
                if (isRight(x, s)) {
                    x = times(x, mirror[s]);
                    length++;
                    isMore = true;
                    break;
                }
            }
        }
        return length;
    }

    /** All words of its length that are the element. */
    List<List<Integer>> words(El w) {
        List<List<Integer>> known = reduced.get(w.key);
        if (known != null) {
            return known;
        }
        List<List<Integer>> all = new ArrayList<>();
        for (int s = 0; s < n; s++) {
            if (isLeft(w, s)) {
                for (List<Integer> rest : words(times(mirror[s], w))) {
                    List<Integer> word = new ArrayList<>();
                    word.add(s);
                    word.addAll(rest);
                    all.add(word);
                }
            }
        }
        if (w.key.equals(one.key)) {
            all.add(new ArrayList<>());
        }
        reduced.put(w.key, all);
        return all;
    }

    /** The words come in their order, as the least first letter is taken first. */
    List<Integer> form(El w) {
        return words(w).get(0);
    }

    boolean isSame(El a, El b) {
        return a.key.equals(b.key);
    }

    /** All that some letters of the form are. */
    Map<String, El> low(El y) {
        Map<String, El> known = lows.get(y.key);
        if (known != null) {
            return known;
        }
        Map<String, El> all = new LinkedHashMap<>();
        all.put(one.key, one);
        for (int s : form(y)) {
            for (El x : new ArrayList<>(all.values())) {
                El z = times(x, mirror[s]);
                all.put(z.key, z);
            }
        }
        lows.put(y.key, all);
        return all;
    }

    boolean isBelow(El x, El y, char kind) {
        if (kind == 's') {
            return low(y).containsKey(x.key);
        }
        List<Integer> form = form(x);
        int k = form.size();
        for (List<Integer> word : words(y)) {
            int m = word.size();
            if (k <= m && (kind == 'r' ? word.subList(0, k) : word.subList(m - k, m)).equals(form)) {
                return true;
            }
        }
        return false;
    }

    List<El> between(El x, El y, char kind) {
        List<El> all = new ArrayList<>();
        for (El z : low(y).values()) {
            if (isBelow(x, z, kind) && isBelow(z, y, kind)) {
                all.add(z);
            }
        }
        return all;
    }

    long moebius(El x, El y, char kind) {
        if (!isBelow(x, y, kind)) {
            return 0;
        }
        List<El> all = between(x, y, kind);
        all.sort((a, b) -> length(a) - length(b));
        Map<String, Long> numbers = new HashMap<>();
        for (El z : all) {
            long sum = 0;
            for (El u : all) {
                if (!isSame(u, z) && isBelow(u, z, kind)) {
                    sum += numbers.get(u.key);
                }
            }
            numbers.put(z.key, isSame(z, x) ? 1 : -sum);
        }
        return numbers.get(y.key);
    }

    static final int DEG = 20;

    long[] r(El x, El y) {
        String key = x.key + y.key;
        long[] known = rs.get(key);
        if (known != null) {
            return known;
        }
        long[] poly = new long[DEG];
        if (isBelow(x, y, 's')) {
            if (isSame(x, y)) {
                poly[0] = 1;
            } else {
                int s = 0;
                while (!isRight(y, s)) {
                    s++;
                }
                El ys = times(y, mirror[s]);
                El xs = times(x, mirror[s]);
                long[] shorter = r(xs, ys);
                if (isRight(x, s)) {
                    poly = shorter;
                } else {
                    long[] other = r(x, ys);
                    for (int k = 0; k + 1 < DEG; k++) {
                        poly[k + 1] += shorter[k] + other[k];
                        poly[k] -= other[k];
                    }
                }
            }
        }
        rs.put(key, poly);
        return poly;
    }

    long[] p(El x, El y) {
        String key = x.key + y.key;
        long[] known = ps.get(key);
        if (known != null) {
            return known;
        }
        long[] poly = new long[DEG];
        if (isBelow(x, y, 's')) {
            if (isSame(x, y)) {
                poly[0] = 1;
            } else {
                long[] sum = new long[DEG];
                for (El z : between(x, y, 's')) {
                    if (!isSame(z, x)) {
                        long[] a = r(x, z);
                        long[] b = p(z, y);
                        for (int i = 0; i < DEG; i++) {
                            for (int j = 0; i + j < DEG; j++) {
                                sum[i + j] += a[i] * b[j];
                            }
                        }
                    }
                }
                int d = length(y) - length(x);
                // q^d P(1/q) - P is the sum, and P has no power above (d - 1) / 2.
                for (int k = 0; 2 * k <= d - 1; k++) {
                    poly[k] = -sum[k];
                    if (sum[d - k] != poly[k]) {
                        throw new IllegalStateException("the sum is not turned into itself");
                    }
                }
                if (d % 2 == 0 && sum[d / 2] != 0) {
                    throw new IllegalStateException("the middle of the sum is not 0");
                }
            }
        }
        ps.put(key, poly);
        return poly;
    }

    /** T of a times T of b, by the key of the element at whose T the polynomial is. */
    Map<String, long[]> algebra(El a, El b) {
        Map<String, long[]> now = new HashMap<>();
        Map<String, El> elements = new HashMap<>();
        long[] first = new long[DEG];
        first[0] = 1;
        now.put(a.key, first);
        elements.put(a.key, a);
        for (int s : form(b)) {
            Map<String, long[]> next = new HashMap<>();
            for (String key : now.keySet()) {
                El w = elements.get(key);
                El ws = times(w, mirror[s]);
                elements.put(ws.key, ws);
                long[] to = next.computeIfAbsent(ws.key, k -> new long[DEG]);
                long[] from = now.get(key);
                if (!isRight(w, s)) {
                    for (int k = 0; k < DEG; k++) {
                        to[k] += from[k];
                    }
                } else {
                    long[] stay = next.computeIfAbsent(w.key, k -> new long[DEG]);
                    for (int k = 0; k + 1 < DEG; k++) {
                        to[k + 1] += from[k];
                        stay[k + 1] += from[k];
                        stay[k] -= from[k];
                    }
                }
            }
            now = next;
        }
        return now;
    }

    /** The roots above 0 that the element in reverse makes below 0. */
    Set<String> parting(El w) {
        Set<String> roots = new HashSet<>();
        El x = one;
        for (int s : form(w)) {
            StringBuilder root = new StringBuilder();
            for (int t = 0; t < n; t++) {
                root.append(x.m[t][s]).append(',');
            }
            roots.add(root.toString());
            x = times(x, mirror[s]);
        }
        return roots;
    }

    /** The u and v of an element for a set of mirrors, by looking at all ways to cut one of its words. */
    El[] parts(El w, int set) {
        El[] found = null;
        for (List<Integer> word : words(w)) {
            for (int cut = 0; cut <= word.size(); cut++) {
                El u = of(word.subList(0, cut));
                boolean isIt = true;
                for (int s : word.subList(cut, word.size())) {
                    isIt &= (set >> s & 1) == 1;
                }
                for (int s = 0; s < n; s++) {
                    isIt &= (set >> s & 1) == 0 || !isRight(u, s);
                }
                if (isIt) {
                    El v = of(word.subList(cut, word.size()));
                    if (found != null && !(isSame(found[0], u) && isSame(found[1], v))) {
                        throw new IllegalStateException("two ways to part");
                    }
                    found = new El[] {u, v};
                }
            }
        }
        return found;
    }

    // What follows looks at the whole group.

    private Map<String, Integer> distances;
    private List<El> mirrored;

    /** All elements of at most this length, but no more than the limit and some. */
    Map<String, El> ball(int radius, int limit) {
        Map<String, El> all = new LinkedHashMap<>();
        all.put(one.key, one);
        List<El> edge = List.of(one);
        for (int r = 0; r < radius && !edge.isEmpty() && all.size() <= limit; r++) {
            List<El> next = new ArrayList<>();
            for (El x : edge) {
                for (El s : mirror) {
                    El y = times(x, s);
                    if (all.putIfAbsent(y.key, y) == null) {
                        next.add(y);
                    }
                }
            }
            edge = next;
        }
        return all;
    }

    int order() {
        int size = ball(Integer.MAX_VALUE, 1200).size();
        return size <= 1200 ? size : -1;
    }

    Map<Integer, Integer> growth(int radius) {
        Map<Integer, Integer> counts = new TreeMap<>();
        for (El x : ball(radius, Integer.MAX_VALUE).values()) {
            counts.merge(length(x), 1, Integer::sum);
        }
        return counts;
    }

    List<El> mirrored() {
        if (mirrored == null) {
            Map<String, El> all = new LinkedHashMap<>();
            for (El w : ball(Integer.MAX_VALUE, 1200).values()) {
                for (El s : mirror) {
                    El t = times(times(w, s), back(w));
                    all.put(t.key, t);
                }
            }
            mirrored = new ArrayList<>(all.values());
        }
        return mirrored;
    }

    Map<String, Integer> distances() {
        if (distances == null) {
            distances = new HashMap<>();
            distances.put(one.key, 0);
            List<El> edge = List.of(one);
            for (int d = 1; !edge.isEmpty(); d++) {
                List<El> next = new ArrayList<>();
                for (El x : edge) {
                    for (El t : mirrored()) {
                        El y = times(x, t);
                        if (distances.putIfAbsent(y.key, d) == null) {
                            next.add(y);
                        }
                    }
                }
                edge = next;
            }
        }
        return distances;
    }

    boolean isBelowByMirrored(El x, El y) {
        return distances().get(x.key) + distances().get(times(back(x), y).key) == distances().get(y.key);
    }

    El ofAll() {
        El x = one;
        for (El s : mirror) {
            x = times(x, s);
        }
        return x;
    }

    int notCrossing() {
        int count = 0;
        for (El z : ball(Integer.MAX_VALUE, 1200).values()) {
            count += isBelowByMirrored(z, ofAll()) ? 1 : 0;
        }
        return count;
    }

    /** All rows of as many reflections as mirrors whose product is that of all mirrors. */
    List<List<El>> chains() {
        List<List<El>> all = new ArrayList<>();
        addChains(all, new ArrayList<>(), ofAll());
        return all;
    }

    private void addChains(List<List<El>> all, List<El> begun, El rest) {
        if (begun.size() == n) {
            if (isSame(rest, one)) {
                all.add(new ArrayList<>(begun));
            }
            return;
        }
        if (distances().get(rest.key) > n - begun.size()) {
            return;
        }
        for (El t : mirrored()) {
            begun.add(t);
            addChains(all, begun, times(t, rest));
            begun.remove(begun.size() - 1);
        }
    }

    int chainParts(List<List<El>> chains) {
        Map<String, Integer> index = new HashMap<>();
        for (List<El> chain : chains) {
            index.put(keyOf(chain), index.size());
        }
        int[] leader = new int[chains.size()];
        for (int i = 0; i < leader.length; i++) {
            leader[i] = i;
        }
        int parts = leader.length;
        for (int i = 0; i < chains.size(); i++) {
            for (int k = 0; k + 1 < n; k++) {
                List<El> moved = new ArrayList<>(chains.get(i));
                El a = moved.get(k);
                El b = moved.get(k + 1);
                moved.set(k, times(times(a, b), a));
                moved.set(k + 1, a);
                int x = lead(leader, i);
                int y = lead(leader, index.get(keyOf(moved)));
                if (x != y) {
                    leader[x] = y;
                    parts--;
                }
            }
        }
        return parts;
    }

    private static int lead(int[] leader, int i) {
        int x = i;
        while (leader[x] != x) {
            x = leader[x];
        }
        return x;
    }

    private static String keyOf(List<El> chain) {
        StringBuilder key = new StringBuilder();
        for (El x : chain) {
            key.append(x.key);
        }
        return key.toString();
    }

    // Exchanges.

    boolean areExchanges() {
        for (int s = 0; s < n; s++) {
            for (int t = s + 1; t < n; t++) {
                if (bond[s][t] != (t == s + 1 ? 3 : 2)) {
                    return false;
                }
            }
        }
        return true;
    }

    /** The first word of the element, letter by letter: for long ones, which have too many words. */
    List<Integer> firstWord(El w) {
        List<Integer> word = new ArrayList<>();
        El rest = w;
        for (int s = 0; s < n; s++) {
            if (isLeft(rest, s)) {
                word.add(s);
                rest = times(mirror[s], rest);
                s = -1;
            }
        }
        return word;
    }

    int[] row(El w) {
        int[] row = new int[n + 1];
        List<Integer> word = firstWord(w);
        for (int p = 0; p <= n; p++) {
            int at = p;
            for (int i = word.size() - 1; i >= 0; i--) {
                int s = word.get(i);
                at = at == s ? s + 1 : at == s + 1 ? s : at;
            }
            row[p] = at;
        }
        return row;
    }

    List<List<Integer>> tower(El w) {
        List<List<Integer>> rows = new ArrayList<>();
        for (int number : row(w)) {
            int moving = number;
            for (int r = 0; moving >= 0; r++) {
                if (r == rows.size()) {
                    rows.add(new ArrayList<>());
                }
                List<Integer> row = rows.get(r);
                int at = 0;
                while (at < row.size() && row.get(at) <= moving) {
                    at++;
                }
                if (at == row.size()) {
                    row.add(moving);
                    moving = -1;
                } else {
                    moving = row.set(at, moving);
                }
            }
        }
        return rows;
    }

    long pipes(El w) {
        long count = 0;
        for (List<Integer> word : words(w)) {
            count += rising(word, 0, 1);
        }
        return count;
    }

    private long rising(List<Integer> word, int at, int least) {
        if (at == word.size()) {
            return 1;
        }
        long count = 0;
        for (int b = least; b <= word.get(at) + 1; b++) {
            boolean isRise = at + 1 < word.size() && word.get(at) < word.get(at + 1);
            count += rising(word, at + 1, isRise ? b + 1 : b);
        }
        return count;
    }

    boolean isAlike(int[][] other) {
        return isAlike(other, new ArrayList<>());
    }

    private boolean isAlike(int[][] other, List<Integer> names) {
        if (names.size() == n) {
            for (int s = 0; s < n; s++) {
                for (int t = 0; t < n; t++) {
                    if (s != t && bond[s][t] != other[names.get(s)][names.get(t)]) {
                        return false;
                    }
                }
            }
            return true;
        }
        for (int name = 0; name < n; name++) {
            if (!names.contains(name)) {
                names.add(name);
                if (isAlike(other, names)) {
                    return true;
                }
                names.remove(names.size() - 1);
            }
        }
        return false;
    }
}
