import java.util.NoSuchElementException;

/** A workshop of groups that are made by mirrors; ../shared/DOC.md promises what each call answers. */
public final class Bruhatry {
    private static final int WIDTH = 5;
    private static final int MOST_LETTERS = 30;
    private static final int MOST_STEPS = 16;
    private static final int MOST_KEPT = 24;
    private static final int MOST_BRAIDS = 8;
    /** No group that is finite here has a longer element: that of 1152 elements has one of just this length. */
    private static final int LONGEST = 24;
    private static final int MOST_OF_GROUP = 1200;
    private static final int SLOTS = 4096;
    private static final int MOST_MIRRORED = 32;
    private static final int MOST_CHAINS = 2048;
    private static final int LONGEST_GROWTH = 6;
    private static final int LONGEST_COUNTED = 12;
    private static final int LONGEST_BETWEEN = 10;
    private static final int LONGEST_WITH_Q = 8;
    private static final int LONGEST_FIRST_WITH_Q = 20;
    private static final int LONGEST_PIPES = 10;
    /** A word of 8 letters has no more parts than 2 to the power of 8, and no power of q above 8. */
    private static final int MOST_LOW = 256;
    private static final int TERMS = 9;
    private static final int TERMS_OF_P = 4;
    private static final int NAME_PAIRS = 10;
    private static final long MOST_NAMES = 9999999999L;
    private static final int MANY = 1000000;

    private final Bonds bonds;
    private final Speller speller;
    private final Word typed;
    private final Word told;
    private final Word made;
    private final Word[] kept;
    private int keptCount;
    private final Braid[] braided;
    private int braidedCount;
    private Group group;
    private Garside garside;
    private Ideal ideal;
    private Exchanges exchanges;
    private Names names;

    public Bruhatry() {
        bonds = new Bonds();
        speller = new Speller(bonds);
        typed = new Word();
        told = new Word();
        made = new Word();
        kept = new Word[MOST_KEPT];
        for (int i = 0; i < MOST_KEPT; i++) {
            kept[i] = new Word();
        }
        braided = new Braid[MOST_BRAIDS];
        for (int i = 0; i < MOST_BRAIDS; i++) {
            braided[i] = new Braid();
        }
    }

    public int begin(int mirrors) throws IllegalArgumentException {
        if (mirrors < 1 || mirrors > WIDTH) {
            throw new IllegalArgumentException();
        }
        int before = keptCount;
        bonds.restart(mirrors);
        typed.clear();
        told.clear();
        forget();
        return before;
    }

    public int bond(int one, int two, int bond) throws IndexOutOfBoundsException, IllegalArgumentException {
        checkMirror(one);
        checkMirror(two);
        if (one == two || !isBond(bond)) {
            throw new IllegalArgumentException();
        }
        int before = bonds.bondAt(one, two);
        bonds.put(one, two, bond);
        forget();
        return before;
    }

    public int c(int one, int two) throws IndexOutOfBoundsException {
        checkMirror(one);
        checkMirror(two);
        return bonds.numberAt(one, two);
    }

    public int order() {
        Group all = groupNow();
        all.learn();
        return all.isFinite() ? all.size() : -1;
    }

    public int growth(int length) throws IllegalArgumentException {
        if (length < 0 || length > LONGEST_GROWTH) {
            throw new IllegalArgumentException();
        }
        return idealNow().grown(length);
    }

    public int type(int mirror) throws IndexOutOfBoundsException, IllegalStateException {
        checkMirror(mirror);
        if (typed.size >= MOST_LETTERS) {
            throw new IllegalStateException();
        }
        typed.put(mirror);
        return typed.size;
    }

    public int erase() {
        int before = typed.size;
        typed.clear();
        return before;
    }

    public int element() throws UnsupportedOperationException, IllegalStateException {
        speller.readBack(typed);
        speller.write(made);
        return keepIfShort();
    }

    public int product(int one, int two)
            throws IndexOutOfBoundsException, UnsupportedOperationException, IllegalStateException {
        checkElement(one);
        checkElement(two);
        speller.read(kept[one]);
        if (speller.multiply(kept[one].size, kept[two]) < 0) {
            throw new UnsupportedOperationException();
        }
        speller.turnOver();
        speller.write(made);
        return keepIfShort();
    }

    public int reverse(int element) throws IndexOutOfBoundsException, IllegalStateException {
        checkElement(element);
        speller.read(kept[element]);
        speller.write(made);
        return keep();
    }

    public int part(int element, int mirrors, boolean isPart)
            throws IndexOutOfBoundsException, IllegalArgumentException, IllegalStateException {
        checkElement(element);
        if (mirrors < 0 || mirrors >= (1 << bonds.size)) {
            throw new IllegalArgumentException();
        }
        speller.read(kept[element]);
        speller.split(mirrors, isPart, made);
        return keep();
    }

    public int longest() throws UnsupportedOperationException, IllegalStateException {
        Group all = finiteGroup();
        all.spell(all.top(), made);
        return keep();
    }

    public int swallow() throws UnsupportedOperationException, IllegalStateException {
        speller.swallowAll(typed);
        speller.turnOver();
        speller.write(made);
        return keepIfShort();
    }

    public int elements() {
        return keptCount;
    }

    public int length(int element) throws IndexOutOfBoundsException {
        checkElement(element);
        return kept[element].size;
    }

    public int letter(int element, int index) throws IndexOutOfBoundsException, NoSuchElementException {
        checkElement(element);
        if (index < 0 || index >= kept[element].size) {
            throw new NoSuchElementException();
        }
        return kept[element].at(index);
    }

    public int descents(int element, boolean areLeft) throws IndexOutOfBoundsException {
        checkElement(element);
        if (areLeft) {
            speller.readBack(kept[element]);
        } else {
            speller.read(kept[element]);
        }
        return bonds.allBelow(speller.row);
    }

    public long root(int element, int simple, int mirror) throws IndexOutOfBoundsException {
        checkElement(element);
        checkMirror(simple);
        checkMirror(mirror);
        return speller.rootNumber(kept[element], simple, mirror);
    }

    public long words(int element) throws IndexOutOfBoundsException, UnsupportedOperationException {
        checkElement(element);
        checkShort(element, LONGEST_COUNTED);
        speller.read(kept[element]);
        return idealNow().countWords(speller.row, kept[element].size);
    }

    public boolean areSame(int lower, int upper) throws IndexOutOfBoundsException {
        checkElement(lower);
        checkElement(upper);
        return kept[lower].isAs(kept[upper]);
    }

    public boolean isBelow(int lower, int upper, char kind)
            throws IndexOutOfBoundsException, IllegalArgumentException, UnsupportedOperationException {
        checkElement(lower);
        checkElement(upper);
        if (kind == 'm') {
            Group all = finiteGroup();
            all.learnDistances();
            return all.isUnderByMirrored(kept[lower], kept[upper]);
        }
        checkKind(kind);
        return isUnder(kept[lower], kept[upper], kind);
    }

    public int between(int lower, int upper, char kind)
            throws IndexOutOfBoundsException, IllegalArgumentException, UnsupportedOperationException {
        checkElement(lower);
        checkElement(upper);
        checkKind(kind);
        checkShort(upper, LONGEST_BETWEEN);
        if (!isUnder(kept[lower], kept[upper], kind)) {
            return 0;
        }
        if (kind == 's') {
            return idealNow().countBetween(kept[lower], kept[upper]);
        }
        // What is left of the row is the way from the lower to the upper one: those between are its beginnings.
        return idealNow().countBeginnings(speller.row, kept[upper].size - kept[lower].size);
    }

    public long moebius(int lower, int upper, char kind)
            throws IndexOutOfBoundsException, IllegalArgumentException, UnsupportedOperationException {
        checkElement(lower);
        checkElement(upper);
        checkKind(kind);
        checkShort(upper, LONGEST_BETWEEN);
        if (!isUnder(kept[lower], kept[upper], kind)) {
            return 0;
        }
        if (kind == 's') {
            return signOf(kept[upper].size - kept[lower].size);
        }
        return speller.moebiusOfWay();
    }

    public long r(int lower, int upper, int power)
            throws IndexOutOfBoundsException, IllegalArgumentException, UnsupportedOperationException {
        checkElement(lower);
        checkElement(upper);
        checkPower(power);
        checkShort(upper, LONGEST_WITH_Q);
        return idealNow().numberOfR(kept[lower], kept[upper], power);
    }

    public long p(int lower, int upper, int power)
            throws IndexOutOfBoundsException, IllegalArgumentException, UnsupportedOperationException {
        checkElement(lower);
        checkElement(upper);
        checkPower(power);
        checkShort(upper, LONGEST_WITH_Q);
        return idealNow().numberOfP(kept[lower], kept[upper], power);
    }

    public long mu(int lower, int upper) throws IndexOutOfBoundsException, UnsupportedOperationException {
        checkElement(lower);
        checkElement(upper);
        checkShort(upper, LONGEST_WITH_Q);
        int difference = kept[upper].size - kept[lower].size;
        if (difference < 1 || difference % 2 == 0) {
            return 0;
        }
        return idealNow().numberOfP(kept[lower], kept[upper], (difference - 1) / 2);
    }

    public long algebra(int one, int two, int of, int power)
            throws IndexOutOfBoundsException, IllegalArgumentException, UnsupportedOperationException {
        checkElement(one);
        checkElement(two);
        checkElement(of);
        checkPower(power);
        checkShort(two, LONGEST_WITH_Q);
        checkShort(one, LONGEST_FIRST_WITH_Q);
        return idealNow().numberOfProduct(kept[one], kept[two], kept[of], power);
    }

    public int reflections() throws UnsupportedOperationException {
        return finiteGroup().mirroredCount();
    }

    public int distance(int element) throws IndexOutOfBoundsException, UnsupportedOperationException {
        checkElement(element);
        Group all = finiteGroup();
        all.learnDistances();
        return all.distanceAt(all.indexOf(kept[element]));
    }

    public int ofDistance(int distance) throws IllegalArgumentException, UnsupportedOperationException {
        if (distance < 0 || distance > WIDTH) {
            throw new IllegalArgumentException();
        }
        Group all = finiteGroup();
        all.learnDistances();
        return all.countAtDistance(distance);
    }

    public int notCrossing() throws UnsupportedOperationException {
        Group all = finiteGroup();
        all.learnDistances();
        return all.countNotCrossing();
    }

    public int chains() throws UnsupportedOperationException {
        Group all = finiteGroup();
        all.learnDistances();
        return all.chainsNow().count;
    }

    public int chainParts() throws UnsupportedOperationException {
        Group all = finiteGroup();
        all.learnDistances();
        return all.chainsNow().pieces;
    }

    public int step(int step) throws IndexOutOfBoundsException, IllegalStateException {
        checkMirror(step < 0 ? -1 - step : step);
        if (told.size >= MOST_STEPS) {
            throw new IllegalStateException();
        }
        told.put(step);
        return told.size;
    }

    public int braid() throws UnsupportedOperationException, IllegalStateException {
        finiteGroup();
        if (braidedCount >= MOST_BRAIDS) {
            throw new IllegalStateException();
        }
        garsideNow().tell(told, braided[braidedCount]);
        told.clear();
        braidedCount++;
        return braidedCount - 1;
    }

    public int powerOf(int braid) throws IndexOutOfBoundsException {
        checkBraid(braid);
        return braided[braid].power;
    }

    public int factors(int braid) throws IndexOutOfBoundsException {
        checkBraid(braid);
        return braided[braid].row.size;
    }

    public int factor(int braid, int index)
            throws IndexOutOfBoundsException, NoSuchElementException, IllegalStateException {
        checkBraid(braid);
        if (index < 0 || index >= braided[braid].row.size) {
            throw new NoSuchElementException();
        }
        groupNow().spell(braided[braid].row.at(index), made);
        return keep();
    }

    public boolean areBraids(int braid, int other) throws IndexOutOfBoundsException {
        checkBraid(braid);
        checkBraid(other);
        return braided[braid].isAs(braided[other]);
    }

    public int cycle(int braid) throws IndexOutOfBoundsException {
        checkBraid(braid);
        garsideNow().roll(braided[braid]);
        return braided[braid].power;
    }

    public int summit(int braid) throws IndexOutOfBoundsException {
        checkBraid(braid);
        return garsideNow().highestPower(braided[braid]);
    }

    public int walls(int lower, int upper) throws IndexOutOfBoundsException, UnsupportedOperationException {
        checkElement(lower);
        checkElement(upper);
        speller.readBack(kept[lower]);
        int parting = speller.multiply(kept[lower].size, kept[upper]);
        if (parting < 0) {
            throw new UnsupportedOperationException();
        }
        return parting;
    }

    public int brings(int element, int place) throws IndexOutOfBoundsException, UnsupportedOperationException {
        checkElement(element);
        if (place < 0 || place > bonds.size) {
            throw new IndexOutOfBoundsException();
        }
        return exchangesNow().placeAfter(kept[element], place);
    }

    public int tower(int element, int row)
            throws IndexOutOfBoundsException, IllegalArgumentException, UnsupportedOperationException {
        checkElement(element);
        if (row < 0) {
            throw new IllegalArgumentException();
        }
        return exchangesNow().rowLength(kept[element], row);
    }

    public long pipes(int element) throws IndexOutOfBoundsException, UnsupportedOperationException {
        checkElement(element);
        Exchanges all = exchangesNow();
        checkShort(element, LONGEST_PIPES);
        return all.countPipes(kept[element]);
    }

    public boolean isAlike(long bonds) throws IllegalArgumentException {
        if (bonds < 0 || bonds > MOST_NAMES) {
            throw new IllegalArgumentException();
        }
        Names other = namesNow();
        if (!other.read(bonds)) {
            throw new IllegalArgumentException();
        }
        return other.fit();
    }

    public int mirrors() {
        return bonds.size;
    }

    public float bondShare() throws ArithmeticException {
        int pairs = bonds.size * (bonds.size - 1) / 2;
        if (pairs < 1) {
            throw new ArithmeticException();
        }
        return (float) bonds.countTied() / (float) pairs;
    }

    public double meanLength() throws ArithmeticException {
        if (keptCount < 1) {
            throw new ArithmeticException();
        }
        int sum = 0;
        for (int i = 0; i < keptCount && i < MOST_KEPT; i++) {
            sum += kept[i].size;
        }
        return (double) sum / (double) keptCount;
    }

    public boolean isSound() {
        for (int i = 0; i < keptCount && i < MOST_KEPT; i++) {
            if (!speller.isFormSound(kept[i]) || !speller.arePartsSound(kept[i])) {
                return false;
            }
        }
        for (int i = 0; i < braidedCount && i < MOST_BRAIDS; i++) {
            if (!garsideNow().isToldAnew(braided[i])) {
                return false;
            }
        }
        return true;
    }

    private static boolean isBond(int bond) {
        return bond == 0 || bond == 2 || bond == 3 || bond == 4 || bond == 6;
    }

    private static long signOf(int difference) {
        return difference % 2 == 0 ? 1 : -1;
    }

    private void checkMirror(int mirror) {
        if (!bonds.hasMirror(mirror)) {
            throw new IndexOutOfBoundsException();
        }
    }

    private void checkElement(int element) {
        if (element < 0 || element >= keptCount || element >= MOST_KEPT) {
            throw new IndexOutOfBoundsException();
        }
    }

    private void checkBraid(int braid) {
        if (braid < 0 || braid >= braidedCount || braid >= MOST_BRAIDS) {
            throw new IndexOutOfBoundsException();
        }
    }

    private void checkKind(char kind) {
        if (kind != 'l' && kind != 'r' && kind != 's') {
            throw new IllegalArgumentException();
        }
    }

    private void checkPower(int power) {
        if (power < 0) {
            throw new IllegalArgumentException();
        }
    }

    private void checkShort(int element, int most) {
        if (kept[element].size > most) {
            throw new UnsupportedOperationException();
        }
    }

    /** Numbers the element that was made; longer than the longest one it is of no group that is finite here. */
    private int keepIfShort() {
        if (made.size > LONGEST) {
            throw new UnsupportedOperationException();
        }
        return keep();
    }

    private int keep() {
        if (keptCount >= MOST_KEPT) {
            throw new IllegalStateException();
        }
        kept[keptCount].take(made);
        keptCount++;
        return keptCount - 1;
    }

    private boolean isUnder(Word low, Word high, char kind) {
        if (kind == 's') {
            return speller.isPartOf(low, high);
        }
        return kind == 'l' ? speller.isEndOf(low, high) : speller.isBeginningOf(low, high);
    }

    private void forget() {
        keptCount = 0;
        braidedCount = 0;
        if (group != null) {
            group.forget();
        }
        if (ideal != null) {
            ideal.forget();
        }
    }

    // The tables are made when they are first asked for, as many objects never need them and the room is small.

    private Group groupNow() {
        if (group == null) {
            group = new Group(bonds);
        }
        return group;
    }

    private Group finiteGroup() {
        Group all = groupNow();
        all.learn();
        if (!all.isFinite()) {
            throw new UnsupportedOperationException();
        }
        return all;
    }

    private Garside garsideNow() {
        Group all = groupNow();
        if (garside == null) {
            garside = new Garside(all);
        }
        return garside;
    }

    private Ideal idealNow() {
        if (ideal == null) {
            ideal = new Ideal(bonds);
        }
        return ideal;
    }

    /** Exchanges are asked for where all bonds of neighbours are 3: such a group is always finite here. */
    private Exchanges exchangesNow() {
        if (!bonds.areExchanges()) {
            throw new UnsupportedOperationException();
        }
        if (exchanges == null) {
            exchanges = new Exchanges(bonds);
        }
        return exchanges;
    }

    private Names namesNow() {
        if (names == null) {
            names = new Names(bonds);
        }
        return names;
    }

    /**
     * The bonds of the mirrors, and rows of elements. The row of an element has, for each mirror, the sum of the
     * numbers of the root to which the element makes the simple root; it is below 0 just if the root is. The row of
     * 1 is 1 everywhere, and elements with the same row are the same, since only 1 leaves that row as it is.
     */
    private static final class Bonds {
        int size;
        private final int[] ties = new int[WIDTH * WIDTH];
        private final int[] numbers = new int[WIDTH * WIDTH];

        Bonds() {
            size = 1;
            ties[0] = 2;
            numbers[0] = 2;
        }

        void restart(int mirrors) {
            size = mirrors < 1 ? 1 : Math.min(mirrors, WIDTH);
            for (int s = 0; s < WIDTH; s++) {
                for (int t = 0; t < WIDTH; t++) {
                    ties[s * WIDTH + t] = 2;
                    numbers[s * WIDTH + t] = s == t ? 2 : 0;
                }
            }
        }

        void put(int one, int two, int tie) {
            if (!hasMirror(one) || !hasMirror(two) || one == two) {
                return;
            }
            int low = Math.min(one, two);
            int high = Math.max(one, two);
            ties[low * WIDTH + high] = tie;
            ties[high * WIDTH + low] = tie;
            numbers[low * WIDTH + high] = numberUp(tie);
            numbers[high * WIDTH + low] = numberDown(tie);
        }

        private static int numberUp(int tie) {
            switch (tie) {
                case 2:
                    return 0;
                case 3:
                    return -1;
                case 6:
                    return -3;
                default:
                    return -2;
            }
        }

        private static int numberDown(int tie) {
            switch (tie) {
                case 2:
                    return 0;
                case 0:
                    return -2;
                default:
                    return -1;
            }
        }

        boolean hasMirror(int mirror) {
            return mirror >= 0 && mirror < size && mirror < WIDTH;
        }

        int bondAt(int one, int two) {
            return hasMirror(one) && hasMirror(two) ? ties[one * WIDTH + two] : 2;
        }

        int numberAt(int one, int two) {
            return hasMirror(one) && hasMirror(two) ? numbers[one * WIDTH + two] : 0;
        }

        int countTied() {
            int count = 0;
            for (int s = 0; s < size; s++) {
                for (int t = s + 1; t < size; t++) {
                    if (bondAt(s, t) != 2) {
                        count++;
                    }
                }
            }
            return count;
        }

        boolean areExchanges() {
            for (int s = 0; s < size; s++) {
                for (int t = s + 1; t < size; t++) {
                    if (bondAt(s, t) != (t == s + 1 ? 3 : 2)) {
                        return false;
                    }
                }
            }
            return true;
        }

        /** Writes the row of 1. */
        void start(long[] rows, int from) {
            for (int t = 0; t < WIDTH && from >= 0 && from < rows.length - t; t++) {
                rows[from + t] = t < size ? 1 : 0;
            }
        }

        /** Puts a mirror behind the element of a row. */
        void turn(long[] rows, int from, int mirror) {
            if (mirror < 0 || mirror >= size || mirror >= WIDTH || from < 0 || from > rows.length - WIDTH) {
                return;
            }
            long at = rows[from + mirror];
            for (int t = 0; t < size && t < WIDTH; t++) {
                rows[from + t] -= numbers[t * WIDTH + mirror] * at;
            }
        }

        void copyTurned(long[] rows, int from, int to, int mirror) {
            int last = rows.length - WIDTH;
            for (int t = 0; t < WIDTH && from >= 0 && from <= last && to >= 0 && to <= last; t++) {
                rows[to + t] = rows[from + t];
            }
            turn(rows, to, mirror);
        }

        boolean falls(long[] rows, int from, int mirror) {
            return mirror >= 0 && mirror < size && from >= 0 && from < rows.length - mirror && rows[from + mirror] < 0;
        }

        int leastBelow(long[] rows, int from) {
            for (int t = 0; t < size && from >= 0 && from < rows.length - t; t++) {
                if (rows[from + t] < 0) {
                    return t;
                }
            }
            return -1;
        }

        int allBelow(long[] row) {
            int set = 0;
            for (int t = 0; t < size && t < row.length; t++) {
                if (row[t] < 0) {
                    set |= 1 << t;
                }
            }
            return set;
        }
    }

    private static final class Word {
        private final int[] letters = new int[MOST_LETTERS];
        int size;

        void clear() {
            size = 0;
        }

        void put(int letter) {
            if (size >= 0 && size < MOST_LETTERS) {
                letters[size] = letter;
                size++;
            }
        }

        int at(int index) {
            return index >= 0 && index < size && index < MOST_LETTERS ? letters[index] : -1;
        }

        void change(int index, int letter) {
            if (index >= 0 && index < size && index < MOST_LETTERS) {
                letters[index] = letter;
            }
        }

        void take(Word other) {
            clear();
            for (int i = 0; i < other.size; i++) {
                put(other.at(i));
            }
        }

        boolean isAs(Word other) {
            if (size != other.size) {
                return false;
            }
            for (int i = 0; i < size; i++) {
                if (at(i) != other.at(i)) {
                    return false;
                }
            }
            return true;
        }
    }

    /** Reads words into a row, works on it, and writes the form of what it is. */
    private static final class Speller {
        private final Bonds bonds;
        final long[] row = new long[WIDTH];
        private final long[] numbers = new long[WIDTH];
        private final Word half = new Word();
        private final Word partial = new Word();
        private final Word rest = new Word();
        private final Word again = new Word();

        Speller(Bonds bonds) {
            this.bonds = bonds;
        }

        void read(Word word) {
            bonds.start(row, 0);
            for (int i = 0; i < word.size; i++) {
                bonds.turn(row, 0, word.at(i));
            }
        }

        /** Reads the word in reverse. */
        void readBack(Word word) {
            bonds.start(row, 0);
            for (int i = word.size - 1; i >= 0; i--) {
                bonds.turn(row, 0, word.at(i));
            }
        }

        /** Writes the form of the row's element in reverse: its first letter is the least left descent of that. */
        void write(Word into) {
            into.clear();
            int mirror = bonds.leastBelow(row, 0);
            for (int i = 0; i < MOST_LETTERS && mirror >= 0; i++) {
                into.put(mirror);
                bonds.turn(row, 0, mirror);
                mirror = bonds.leastBelow(row, 0);
            }
        }

        /** Makes the row that of its element in reverse. */
        void turnOver() {
            write(half);
            read(half);
        }

        /** Puts the letters of a word behind; answers the length then, or -1 if it gets too long on the way. */
        int multiply(int startLength, Word by) {
            int now = startLength;
            for (int i = 0; i < by.size; i++) {
                now += bonds.falls(row, 0, by.at(i)) ? -1 : 1;
                if (now > MOST_LETTERS) {
                    return -1;
                }
                bonds.turn(row, 0, by.at(i));
            }
            return now;
        }

        void swallowAll(Word word) {
            bonds.start(row, 0);
            for (int i = 0; i < word.size; i++) {
                if (!bonds.falls(row, 0, word.at(i))) {
                    bonds.turn(row, 0, word.at(i));
                }
            }
        }

        /** Writes the form of the part, or of the rest, of the row's element, for a set of mirrors. */
        void split(int set, boolean isPart, Word into) {
            half.clear();
            int mirror = leastOf(bonds.allBelow(row) & set);
            for (int i = 0; i < MOST_LETTERS && mirror >= 0; i++) {
                half.put(mirror);
                bonds.turn(row, 0, mirror);
                mirror = leastOf(bonds.allBelow(row) & set);
            }
            if (isPart) {
                // What fell off from behind is the part in reverse.
                read(half);
            } else {
                turnOver();
            }
            write(into);
        }

        private int leastOf(int set) {
            for (int t = 0; t < WIDTH; t++) {
                if ((set >> t & 1) == 1) {
                    return t;
                }
            }
            return -1;
        }

        long rootNumber(Word word, int simple, int mirror) {
            for (int t = 0; t < WIDTH; t++) {
                numbers[t] = t == simple ? 1 : 0;
            }
            for (int i = word.size - 1; i >= 0; i--) {
                reflect(word.at(i));
            }
            return bonds.hasMirror(mirror) ? numbers[mirror] : 0;
        }

        private void reflect(int mirror) {
            if (!bonds.hasMirror(mirror)) {
                return;
            }
            long sum = 0;
            for (int t = 0; t < WIDTH; t++) {
                sum += numbers[t] * bonds.numberAt(t, mirror);
            }
            numbers[mirror] -= sum;
        }

        /** Strong order: with each letter that the upper one loses ahead, the lower one loses it too if it can. */
        boolean isPartOf(Word low, Word high) {
            readBack(low);
            int lost = 0;
            for (int i = 0; i < high.size; i++) {
                if (bonds.falls(row, 0, high.at(i))) {
                    bonds.turn(row, 0, high.at(i));
                    lost++;
                }
            }
            return lost == low.size;
        }

        /** Right order; if so, the row is then that of what follows, in reverse. */
        boolean isBeginningOf(Word low, Word high) {
            readBack(high);
            for (int i = 0; i < low.size; i++) {
                if (!bonds.falls(row, 0, low.at(i))) {
                    return false;
                }
                bonds.turn(row, 0, low.at(i));
            }
            return true;
        }

        /** Left order; if so, the row is then that of what goes ahead. */
        boolean isEndOf(Word low, Word high) {
            read(high);
            for (int i = low.size - 1; i >= 0; i--) {
                if (!bonds.falls(row, 0, low.at(i))) {
                    return false;
                }
                bonds.turn(row, 0, low.at(i));
            }
            return true;
        }

        /** In a left or right order just the longest elements of sets of mirrors are ways with a number not 0. */
        long moebiusOfWay() {
            int set = bonds.allBelow(row);
            int mirror = bonds.leastBelow(row, 0);
            for (int i = 0; i < MOST_LETTERS && mirror >= 0; i++) {
                if ((set >> mirror & 1) == 0) {
                    return 0;
                }
                bonds.turn(row, 0, mirror);
                mirror = bonds.leastBelow(row, 0);
            }
            return signOf(Integer.bitCount(set));
        }

        boolean isFormSound(Word form) {
            readBack(form);
            write(again);
            bonds.start(row, 0);
            return again.isAs(form) && multiply(0, form) == form.size;
        }

        boolean arePartsSound(Word form) {
            for (int set = 0; set < 1 << bonds.size; set++) {
                read(form);
                split(set, true, partial);
                read(form);
                split(set, false, rest);
                if (partial.size + rest.size != form.size || !isOfSet(partial, set) || !givesForm(form, set)) {
                    return false;
                }
            }
            return true;
        }

        private boolean isOfSet(Word word, int set) {
            for (int i = 0; i < word.size; i++) {
                if ((set >> word.at(i) & 1) == 0) {
                    return false;
                }
            }
            return true;
        }

        private boolean givesForm(Word form, int set) {
            read(rest);
            if ((bonds.allBelow(row) & set) != 0) {
                return false;
            }
            multiply(rest.size, partial);
            turnOver();
            write(again);
            return again.isAs(form);
        }
    }

    /** Numbered elements, told by their rows, and what each mirror behind makes of them. */
    private static final class Table {
        private final Bonds bonds;
        private final long[] rows = new long[MOST_OF_GROUP * WIDTH];
        private final int[] behind = new int[MOST_OF_GROUP * WIDTH];
        private final int[] lengths = new int[MOST_OF_GROUP];
        private final int[] slots = new int[SLOTS];
        private final long[] asked = new long[WIDTH];
        int size;

        Table(Bonds bonds) {
            this.bonds = bonds;
        }

        /** Begins with the element of this row alone, as number 0. */
        void restart(long[] row, int rowLength) {
            for (int i = 0; i < SLOTS; i++) {
                slots[i] = 0;
            }
            size = 0;
            ask(row);
            place(rowLength, true);
        }

        private void ask(long[] row) {
            for (int t = 0; t < WIDTH && t < row.length; t++) {
                asked[t] = row[t];
            }
        }

        /** The number of the element of this row, or -1. */
        int find(long[] row) {
            ask(row);
            return place(0, false);
        }

        /** The number of the asked row, which is added if it may be; -1 if it is not there then. */
        private int place(int rowLength, boolean mayAdd) {
            int slot = slotOfAsked();
            if (slots[slot] > 0) {
                return slots[slot] - 1;
            }
            if (!mayAdd || size < 0 || size >= MOST_OF_GROUP) {
                return -1;
            }
            for (int t = 0; t < WIDTH; t++) {
                rows[size * WIDTH + t] = asked[t];
                behind[size * WIDTH + t] = -1;
            }
            lengths[size] = rowLength;
            size++;
            slots[slot] = size;
            return size - 1;
        }

        private int slotOfAsked() {
            long mixed = 0;
            for (int t = 0; t < WIDTH; t++) {
                mixed = mixed * 1000003 + asked[t];
            }
            int slot = (int) (mixed ^ mixed >>> 15 ^ mixed >>> 31) & SLOTS - 1;
            for (int i = 0; i < SLOTS && slots[slot] > 0 && !isAsked(slots[slot] - 1); i++) {
                slot = slot + 1 & SLOTS - 1;
            }
            return slot;
        }

        private boolean isAsked(int index) {
            for (int t = 0; t < WIDTH; t++) {
                if (index < 0 || index >= MOST_OF_GROUP || rows[index * WIDTH + t] != asked[t]) {
                    return false;
                }
            }
            return true;
        }

        /** What a mirror behind makes of an element, sought, or added if it may be; -1 if it is not there then. */
        int link(int index, int mirror, boolean mayAdd) {
            int known = next(index, mirror);
            if (known >= 0 || !has(index) || !bonds.hasMirror(mirror)) {
                return known;
            }
            for (int t = 0; t < WIDTH; t++) {
                asked[t] = rows[index * WIDTH + t];
            }
            bonds.turn(asked, 0, mirror);
            int to = place(lengths[index] + (falls(index, mirror) ? -1 : 1), mayAdd);
            if (has(to)) {
                behind[index * WIDTH + mirror] = to;
                behind[to * WIDTH + mirror] = index;
            }
            return to;
        }

        boolean has(int index) {
            return index >= 0 && index < size && index < MOST_OF_GROUP;
        }

        int next(int index, int mirror) {
            if (index < 0 || index >= size || index >= MOST_OF_GROUP || mirror < 0 || mirror >= WIDTH) {
                return -1;
            }
            return behind[index * WIDTH + mirror];
        }

        int lengthAt(int index) {
            return has(index) ? lengths[index] : -1;
        }

        boolean falls(int index, int mirror) {
            if (index < 0 || index >= size || index >= MOST_OF_GROUP || mirror < 0 || mirror >= WIDTH) {
                return false;
            }
            return rows[index * WIDTH + mirror] < 0;
        }

        /** The least right descent. */
        int leastFall(int index) {
            return has(index) ? bonds.leastBelow(rows, index * WIDTH) : -1;
        }
    }

    /** All elements, by rising lengths, 0 being 1, if the group is finite here; else too many of them. */
    private static final class Group {
        private final Bonds bonds;
        private final Table table;
        private final long[] row = new long[WIDTH];
        private final int[] inverses = new int[MOST_OF_GROUP];
        private final int[] distances = new int[MOST_OF_GROUP];
        private final int[] mirrored = new int[MOST_MIRRORED];
        private int mirroredSize;
        private boolean isLearnt;
        private boolean isComplete;
        private boolean hasDistances;
        private boolean hasChains;
        private Chains chained;

        Group(Bonds bonds) {
            this.bonds = bonds;
            table = new Table(bonds);
        }

        void forget() {
            isLearnt = false;
            isComplete = false;
            hasDistances = false;
            hasChains = false;
        }

        void learn() {
            if (isLearnt) {
                return;
            }
            isLearnt = true;
            bonds.start(row, 0);
            table.restart(row, 0);
            isComplete = fill();
            if (isComplete) {
                findInverses();
                findMirrored();
            }
        }

        private boolean fill() {
            for (int i = 0; i < table.size && i < MOST_OF_GROUP; i++) {
                for (int s = 0; s < bonds.size; s++) {
                    if (table.link(i, s, true) < 0) {
                        return false;
                    }
                }
            }
            return true;
        }

        private void findInverses() {
            for (int i = 0; i < table.size && i < MOST_OF_GROUP; i++) {
                int back = 0;
                int at = i;
                for (int k = 0; k < LONGEST && at > 0; k++) {
                    int mirror = table.leastFall(at);
                    back = table.next(back, mirror);
                    at = table.next(at, mirror);
                }
                inverses[i] = back;
            }
        }

        /** Each reflection comes from a mirror by the same mirrors ahead and behind. */
        private void findMirrored() {
            mirroredSize = 0;
            for (int s = 0; s < bonds.size; s++) {
                addMirrored(table.next(0, s));
            }
            for (int i = 0; i < mirroredSize && i < MOST_MIRRORED; i++) {
                for (int s = 0; s < bonds.size; s++) {
                    addMirrored(previous(table.next(mirrored[i], s), s));
                }
            }
        }

        private void addMirrored(int index) {
            if (index >= 0 && placeOfMirrored(index) < 0 && mirroredSize < MOST_MIRRORED) {
                mirrored[mirroredSize] = index;
                mirroredSize++;
            }
        }

        int placeOfMirrored(int index) {
            for (int i = 0; i < mirroredSize && i < MOST_MIRRORED; i++) {
                if (mirrored[i] == index) {
                    return i;
                }
            }
            return -1;
        }

        boolean isFinite() {
            return isComplete;
        }

        int size() {
            return table.size;
        }

        /** The longest element. */
        int top() {
            return table.size - 1;
        }

        private int inverseOf(int index) {
            return index >= 0 && index < table.size && index < MOST_OF_GROUP ? inverses[index] : -1;
        }

        /** What a mirror ahead makes of an element. */
        int previous(int index, int mirror) {
            return inverseOf(table.next(inverseOf(index), mirror));
        }

        int next(int index, int mirror) {
            return table.next(index, mirror);
        }

        boolean fallsBehind(int index, int mirror) {
            return table.falls(index, mirror);
        }

        boolean fallsAhead(int index, int mirror) {
            return table.falls(inverseOf(index), mirror);
        }

        int times(int one, int two) {
            int now = one;
            int left = inverseOf(two);
            for (int k = 0; k < LONGEST && left > 0; k++) {
                int mirror = table.leastFall(left);
                now = table.next(now, mirror);
                left = table.next(left, mirror);
            }
            return now;
        }

        int indexOf(Word word) {
            return walk(0, word);
        }

        private int walk(int from, Word word) {
            int now = from;
            for (int i = 0; i < word.size; i++) {
                now = table.next(now, word.at(i));
            }
            return now;
        }

        /** Writes the form of an element. */
        void spell(int index, Word into) {
            into.clear();
            int left = inverseOf(index);
            for (int k = 0; k < LONGEST && left > 0; k++) {
                int mirror = table.leastFall(left);
                into.put(mirror);
                left = table.next(left, mirror);
            }
        }

        int mirroredCount() {
            return mirroredSize;
        }

        int mirroredAt(int place) {
            return place >= 0 && place < mirroredSize && place < MOST_MIRRORED ? mirrored[place] : -1;
        }

        int distanceAt(int index) {
            return table.has(index) ? distances[index] : -1;
        }

        void learnDistances() {
            if (hasDistances) {
                return;
            }
            hasDistances = true;
            for (int i = 0; i < MOST_OF_GROUP; i++) {
                distances[i] = i == 0 ? 0 : -1;
            }
            for (int far = 0; far < WIDTH; far++) {
                for (int i = 0; i < table.size && i < MOST_OF_GROUP; i++) {
                    if (distances[i] == far) {
                        reachFrom(i, far + 1);
                    }
                }
            }
        }

        private void reachFrom(int index, int far) {
            for (int k = 0; k < mirroredSize && k < MOST_MIRRORED; k++) {
                int to = times(index, mirrored[k]);
                if (table.has(to) && distances[to] < 0) {
                    distances[to] = far;
                }
            }
        }

        int countAtDistance(int far) {
            int count = 0;
            for (int i = 0; i < table.size && i < MOST_OF_GROUP; i++) {
                if (distances[i] == far) {
                    count++;
                }
            }
            return count;
        }

        boolean isUnderByMirrored(Word low, Word high) {
            int one = indexOf(low);
            int way = walk(inverseOf(one), high);
            return distanceAt(one) + distanceAt(way) == distanceAt(indexOf(high));
        }

        /** Puts all mirrors behind an element, by rising numbers. */
        int timesAllMirrors(int from) {
            int now = from;
            for (int s = 0; s < bonds.size; s++) {
                now = table.next(now, s);
            }
            return now;
        }

        int countNotCrossing() {
            int far = distanceAt(timesAllMirrors(0));
            int count = 0;
            for (int i = 0; i < table.size; i++) {
                if (distanceAt(i) + distanceAt(timesAllMirrors(inverseOf(i))) == far) {
                    count++;
                }
            }
            return count;
        }

        Chains chainsNow() {
            if (chained == null) {
                chained = new Chains(this);
            }
            if (!hasChains) {
                hasChains = true;
                chained.learn(bonds.size);
            }
            return chained;
        }
    }

    /** The chains of the element of all mirrors, each as one number: five bits a place, the last place ahead. */
    private static final class Chains {
        private static final int BITS = 5;
        private static final int MASK = MOST_MIRRORED - 1;
        private final Group group;
        private final int[] conjugates = new int[MOST_MIRRORED * MOST_MIRRORED];
        private final int[] codes = new int[MOST_CHAINS];
        private final int[] open = new int[MOST_CHAINS];
        private final boolean[] isReached = new boolean[MOST_CHAINS];
        private int places;
        int count;
        int pieces;

        Chains(Group group) {
            this.group = group;
        }

        void learn(int mirrorCount) {
            places = mirrorCount;
            count = 0;
            pieces = 0;
            gather(group.timesAllMirrors(0), places, 0);
            findConjugates();
            for (int i = 0; i < count && i < MOST_CHAINS; i++) {
                isReached[i] = false;
            }
            for (int i = 0; i < count && i < MOST_CHAINS; i++) {
                if (!isReached[i]) {
                    pieces++;
                    flood(i);
                }
            }
        }

        /** Takes reflections off from behind, those of lesser numbers first, so that the codes rise. */
        private void gather(int rest, int left, int code) {
            if (left <= 0 || left > WIDTH) {
                if (count < MOST_CHAINS) {
                    codes[count] = code;
                    count++;
                }
                return;
            }
            for (int k = 0; k < group.mirroredCount(); k++) {
                int before = group.times(rest, group.mirroredAt(k));
                if (group.distanceAt(before) == left - 1) {
                    gather(before, left - 1, code | k << BITS * (left - 1));
                }
            }
        }

        private void findConjugates() {
            for (int a = 0; a < group.mirroredCount() && a < MOST_MIRRORED; a++) {
                for (int b = 0; b < group.mirroredCount() && b < MOST_MIRRORED; b++) {
                    int one = group.mirroredAt(a);
                    int turned = group.times(group.times(one, group.mirroredAt(b)), one);
                    conjugates[a * MOST_MIRRORED + b] = group.placeOfMirrored(turned);
                }
            }
        }

        /** Of finitely many chains, moves alone lead wherever moves and moves back do. */
        private void flood(int from) {
            int size = reach(from, 0);
            for (int i = 0; i < size && i < MOST_CHAINS; i++) {
                for (int k = 0; k + 1 < places; k++) {
                    size = reach(placeOf(moved(codeAt(open[i]), k)), size);
                }
            }
        }

        /** Opens a chain if it is new; answers how many are open or were. */
        private int reach(int index, int size) {
            if (index < 0 || index >= MOST_CHAINS || size < 0 || size >= MOST_CHAINS || isReached[index]) {
                return size;
            }
            isReached[index] = true;
            open[size] = index;
            return size + 1;
        }

        private int codeAt(int index) {
            return index >= 0 && index < count && index < MOST_CHAINS ? codes[index] : -1;
        }

        private int moved(int code, int place) {
            int shift = BITS * place;
            int a = code >> shift & MASK;
            int b = code >> shift + BITS & MASK;
            int others = code & ~(MASK << shift | MASK << shift + BITS);
            return others | conjugates[a * MOST_MIRRORED + b] << shift | a << shift + BITS;
        }

        private int placeOf(int code) {
            int low = 0;
            int high = count - 1;
            for (int i = 0; i < MOST_CHAINS && low <= high; i++) {
                int middle = (low + high) / 2;
                if (codeAt(middle) == code) {
                    return middle;
                }
                if (codeAt(middle) < code) {
                    low = middle + 1;
                } else {
                    high = middle - 1;
                }
            }
            return -1;
        }
    }

    /** A braid in its form; its row has the numbers of the elements in the group. */
    private static final class Braid {
        int power;
        final Word row = new Word();

        void clear() {
            power = 0;
            row.clear();
        }

        void take(Braid other) {
            power = other.power;
            row.take(other.row);
        }

        boolean isAs(Braid other) {
            return power == other.power && row.isAs(other.row);
        }
    }

    /** Brings braids into their form. */
    private static final class Garside {
        private final Group group;
        private final Braid rolling = new Braid();
        private final Braid seen = new Braid();
        private final Word letters = new Word();
        private final Word spelt = new Word();

        Garside(Group group) {
            this.group = group;
        }

        void tell(Word steps, Braid into) {
            into.clear();
            for (int i = 0; i < steps.size; i++) {
                addStep(into, steps.at(i));
            }
        }

        /** The inverse of a mirror is the longest one's, then the element that the mirror makes the longest one. */
        private void addStep(Braid braid, int step) {
            if (step >= 0) {
                push(braid, group.next(0, step));
                return;
            }
            for (int i = 0; i < braid.row.size; i++) {
                braid.row.change(i, turned(braid.row.at(i)));
            }
            braid.power--;
            push(braid, group.next(group.top(), -1 - step));
        }

        private int turned(int index) {
            return group.times(group.times(group.top(), index), group.top());
        }

        private void push(Braid braid, int index) {
            braid.row.put(index);
            boolean isMoved = true;
            for (int k = 0; k < MANY && isMoved; k++) {
                isMoved = false;
                for (int i = braid.row.size - 2; i >= 0; i--) {
                    isMoved |= slide(braid.row, i);
                }
            }
            strip(braid);
        }

        /** Brings letters of the second one of two over to the first one, as long as this gets longer. */
        private boolean slide(Word row, int place) {
            int one = row.at(place);
            int two = row.at(place + 1);
            int mirror = sliding(one, two);
            if (mirror < 0) {
                return false;
            }
            for (int k = 0; k < LONGEST && mirror >= 0; k++) {
                one = group.next(one, mirror);
                two = group.previous(two, mirror);
                mirror = sliding(one, two);
            }
            row.change(place, one);
            row.change(place + 1, two);
            return true;
        }

        private int sliding(int one, int two) {
            for (int s = 0; s < WIDTH; s++) {
                if (group.fallsAhead(two, s) && !group.fallsBehind(one, s)) {
                    return s;
                }
            }
            return -1;
        }

        /** The longest ones have come to the front, and 1 to the end. */
        private void strip(Braid braid) {
            letters.take(braid.row);
            braid.row.clear();
            for (int i = 0; i < letters.size; i++) {
                if (letters.at(i) == group.top()) {
                    braid.power++;
                } else if (letters.at(i) != 0) {
                    braid.row.put(letters.at(i));
                }
            }
        }

        /** Cycles a braid. */
        void roll(Braid braid) {
            if (braid.row.size == 0) {
                return;
            }
            int first = braid.row.at(0);
            letters.take(braid.row);
            braid.row.clear();
            for (int i = 1; i < letters.size; i++) {
                braid.row.put(letters.at(i));
            }
            push(braid, braid.power % 2 == 0 ? first : turned(first));
        }

        /** Compares with a form seen before, which is changed for a later one ever more seldom. */
        int highestPower(Braid braid) {
            rolling.take(braid);
            seen.take(braid);
            int best = braid.power;
            int wait = 1;
            int waited = 0;
            for (int k = 0; k < MANY; k++) {
                roll(rolling);
                best = Math.max(best, rolling.power);
                if (rolling.isAs(seen)) {
                    return best;
                }
                waited++;
                if (waited == wait) {
                    seen.take(rolling);
                    wait *= 2;
                    waited = 0;
                }
            }
            return best;
        }

        boolean isToldAnew(Braid braid) {
            rolling.clear();
            rolling.power = braid.power;
            for (int i = 0; i < braid.row.size; i++) {
                pushLetters(rolling, braid.row.at(i));
            }
            return rolling.isAs(braid);
        }

        private void pushLetters(Braid braid, int index) {
            group.spell(index, spelt);
            for (int i = 0; i < spelt.size; i++) {
                push(braid, group.next(0, spelt.at(i)));
            }
        }
    }

    /** The elements below one, or those that a product of T is made of, with polynomials in q for each. */
    private static final class Ideal {
        private final Bonds bonds;
        private final Table table;
        private final Speller speller;
        private final long[] column = new long[MOST_LOW * TERMS];
        private final long[] sums = new long[MOST_LOW * TERMS];
        private final long[] polynomials = new long[MOST_LOW * TERMS_OF_P];
        private final long[] ways = new long[MOST_OF_GROUP];
        private final long[] climbs = new long[(LONGEST_GROWTH + 1) * WIDTH];
        private final Word word = new Word();
        private final Word fallen = new Word();
        private final Word top = new Word();
        private boolean hasTop;

        Ideal(Bonds bonds) {
            this.bonds = bonds;
            table = new Table(bonds);
            speller = new Speller(bonds);
        }

        void forget() {
            hasTop = false;
        }

        /** How many elements of the group have a length. */
        int grown(int rowLength) {
            bonds.start(climbs, 0);
            return countAbove(0, rowLength);
        }

        /** Each element is reached once: by its least right descent. */
        private int countAbove(int depth, int rowLength) {
            if (depth >= rowLength || depth >= LONGEST_GROWTH) {
                return 1;
            }
            int count = 0;
            int to = (depth + 1) * WIDTH;
            for (int s = 0; s < bonds.size; s++) {
                if (!bonds.falls(climbs, depth * WIDTH, s)) {
                    bonds.copyTurned(climbs, depth * WIDTH, to, s);
                    if (bonds.leastBelow(climbs, to) == s) {
                        count += countAbove(depth + 1, rowLength);
                    }
                }
            }
            return count;
        }

        /**
         * Fills the table with all that the element of the row begins with, it itself first, 1 last. It has room for
         * them: up to length 10 there are 1024 at most, as each mirror doubles them at most, and of length 12 just 288.
         */
        int countBeginnings(long[] row, int rowLength) {
            hasTop = false;
            table.restart(row, rowLength);
            for (int i = 0; i < table.size && i < MOST_OF_GROUP; i++) {
                for (int s = 0; s < bonds.size; s++) {
                    if (table.falls(i, s)) {
                        table.link(i, s, true);
                    }
                }
            }
            return table.size;
        }

        long countWords(long[] row, int rowLength) {
            int size = countBeginnings(row, rowLength);
            for (int i = 0; i < size && i < MOST_OF_GROUP; i++) {
                ways[i] = i == 0 ? 1 : 0;
            }
            for (int i = 0; i < size && i < MOST_OF_GROUP; i++) {
                for (int s = 0; s < bonds.size; s++) {
                    int to = table.falls(i, s) ? table.next(i, s) : -1;
                    if (table.has(to)) {
                        ways[to] += ways[i];
                    }
                }
            }
            return size > 0 && size <= MOST_OF_GROUP ? ways[size - 1] : 0;
        }

        /** Fills the table with the element of the row, and all that some letters of a word behind make of it. */
        private void fill(int rowLength, Word by) {
            hasTop = false;
            table.restart(speller.row, rowLength);
            for (int k = 0; k < by.size; k++) {
                int before = table.size;
                for (int i = 0; i < before && i < MOST_OF_GROUP; i++) {
                    table.link(i, by.at(k), true);
                }
            }
        }

        /** Fills the table with all that is below an element in the strong order, 1 first. */
        private void fillBelow(Word high) {
            bonds.start(speller.row, 0);
            fill(0, high);
            for (int i = 0; i < table.size && i < MOST_OF_GROUP; i++) {
                for (int s = 0; s < bonds.size; s++) {
                    table.link(i, s, false);
                }
            }
        }

        private int find(Word form) {
            speller.read(form);
            return table.find(speller.row);
        }

        int countBetween(Word low, Word high) {
            fillBelow(high);
            int least = find(low);
            int count = 0;
            for (int i = 0; i < table.size; i++) {
                if (isUnder(least, i)) {
                    count++;
                }
            }
            return count;
        }

        private boolean isUnder(int low, int high) {
            int x = low;
            int y = high;
            for (int k = 0; k < LONGEST && table.lengthAt(y) > 0; k++) {
                int mirror = table.leastFall(y);
                if (table.falls(x, mirror)) {
                    x = table.next(x, mirror);
                }
                y = table.next(y, mirror);
            }
            return table.lengthAt(x) == 0;
        }

        long numberOfR(Word low, Word high, int power) {
            if (power >= TERMS) {
                return 0;
            }
            fillBelow(high);
            fillR(high);
            return numberAt(find(low), power);
        }

        private long numberAt(int index, int power) {
            return index >= 0 && index < MOST_LOW && power >= 0 && power < TERMS ? column[index * TERMS + power] : 0;
        }

        private void startColumn() {
            for (int i = 0; i < MOST_LOW * TERMS; i++) {
                column[i] = i == 0 ? 1 : 0;
            }
        }

        /** Makes the column R of each element and that of the word, from that of 1 by one letter after the other. */
        private void fillR(Word high) {
            startColumn();
            for (int k = 0; k < high.size; k++) {
                int mirror = high.at(k);
                for (int i = 0; i < table.size && i < MOST_LOW; i++) {
                    int to = table.falls(i, mirror) ? -1 : table.next(i, mirror);
                    if (hasNumbers(i, k) && to >= 0 && to < MOST_LOW) {
                        movePairOfR(i * TERMS, to * TERMS);
                    }
                }
            }
        }

        /** R of an element and a longer one that it is below has a greatest power: the difference of lengths. */
        private boolean hasNumbers(int index, int highLength) {
            return numberAt(index, highLength - table.lengthAt(index)) != 0;
        }

        private void movePairOfR(int low, int high) {
            long carried = 0;
            for (int k = 0; k < TERMS; k++) {
                long atLow = column[low + k];
                long atHigh = column[high + k];
                column[high + k] = atLow;
                column[low + k] = carried - atLow;
                carried = atLow + atHigh;
            }
        }

        long numberOfP(Word low, Word high, int power) {
            if (power >= TERMS_OF_P) {
                return 0;
            }
            if (!hasTop || !top.isAs(high)) {
                fillBelow(high);
                fillP(high);
                top.take(high);
                hasTop = true;
            }
            int index = find(low);
            return index >= 0 && index < MOST_LOW ? polynomials[index * TERMS_OF_P + power] : 0;
        }

        /** From the longest one on downwards: sums has what the longer ones give to each, and P follows from it. */
        private void fillP(Word high) {
            for (int i = 0; i < MOST_LOW * TERMS; i++) {
                sums[i] = 0;
            }
            for (int now = high.size; now >= 0; now--) {
                for (int i = 0; i < table.size && i < MOST_LOW; i++) {
                    if (table.lengthAt(i) == now) {
                        settleP(i, high.size - now);
                        spreadP(i, now);
                    }
                }
            }
        }

        private void settleP(int index, int difference) {
            for (int k = 0; k < TERMS_OF_P; k++) {
                long number = 2 * k < difference ? -sums[index * TERMS + k] : 0;
                polynomials[index * TERMS_OF_P + k] = difference == 0 && k == 0 ? 1 : number;
            }
        }

        private void spreadP(int index, int rowLength) {
            spell(index);
            fillR(word);
            for (int i = 0; i < table.size && i < MOST_LOW; i++) {
                if (i != index && hasNumbers(i, rowLength)) {
                    addProduct(i, index);
                }
            }
        }

        private void addProduct(int low, int high) {
            for (int k = 0; k < TERMS_OF_P; k++) {
                long factor = polynomials[high * TERMS_OF_P + k];
                for (int j = 0; j + k < TERMS && factor != 0; j++) {
                    sums[low * TERMS + j + k] += factor * column[low * TERMS + j];
                }
            }
        }

        /** Writes a word of its length of an element below. */
        private void spell(int index) {
            int at = index;
            fallen.clear();
            for (int k = 0; k < LONGEST && table.lengthAt(at) > 0; k++) {
                int mirror = table.leastFall(at);
                fallen.put(mirror);
                at = table.next(at, mirror);
            }
            word.clear();
            for (int i = fallen.size - 1; i >= 0; i--) {
                word.put(fallen.at(i));
            }
        }

        long numberOfProduct(Word one, Word two, Word of, int power) {
            if (power >= TERMS) {
                return 0;
            }
            speller.read(one);
            fill(one.size, two);
            startColumn();
            for (int k = 0; k < two.size; k++) {
                int mirror = two.at(k);
                for (int i = 0; i < table.size && i < MOST_LOW; i++) {
                    int to = table.falls(i, mirror) ? -1 : table.next(i, mirror);
                    if (to >= 0 && to < MOST_LOW) {
                        movePairOfT(i * TERMS, to * TERMS);
                    }
                }
            }
            return numberAt(find(of), power);
        }

        private void movePairOfT(int low, int high) {
            long carried = 0;
            for (int k = 0; k < TERMS; k++) {
                long atLow = column[low + k];
                long atHigh = column[high + k];
                column[low + k] = carried;
                column[high + k] = atLow + carried - atHigh;
                carried = atHigh;
            }
        }
    }

    /** What elements do with places, where the mirrors exchange neighbours. */
    private static final class Exchanges {
        private static final int PLACES = WIDTH + 1;
        private final Bonds bonds;
        private final int[] numbers = new int[PLACES * PLACES];
        private final int[] sizes = new int[PLACES];
        private final long[] falls = new long[(LONGEST_PIPES + 1) * WIDTH];
        private final Speller speller;

        Exchanges(Bonds bonds) {
            this.bonds = bonds;
            speller = new Speller(bonds);
        }

        int placeAfter(Word word, int place) {
            int now = place;
            for (int i = word.size - 1; i >= 0; i--) {
                int mirror = word.at(i);
                if (now == mirror) {
                    now = mirror + 1;
                } else if (now == mirror + 1) {
                    now = mirror;
                }
            }
            return now;
        }

        int rowLength(Word word, int row) {
            for (int i = 0; i < PLACES; i++) {
                sizes[i] = 0;
            }
            for (int i = 0; i <= bonds.size && i < PLACES; i++) {
                putIn(placeAfter(word, i));
            }
            return row >= 0 && row < PLACES ? sizes[row] : 0;
        }

        private void putIn(int number) {
            int moving = number;
            for (int row = 0; row < PLACES; row++) {
                int at = placeOfGreater(row, moving);
                if (at >= sizes[row]) {
                    if (at < PLACES) {
                        numbers[row * PLACES + at] = moving;
                        sizes[row] = at + 1;
                    }
                    return;
                }
                int out = numbers[row * PLACES + at];
                numbers[row * PLACES + at] = moving;
                moving = out;
            }
        }

        private int placeOfGreater(int row, int number) {
            for (int i = 0; i < sizes[row] && i < PLACES; i++) {
                if (numbers[row * PLACES + i] > number) {
                    return i;
                }
            }
            return sizes[row];
        }

        long countPipes(Word form) {
            speller.readBack(form);
            for (int t = 0; t < WIDTH; t++) {
                falls[t] = speller.row[t];
            }
            return countFrom(0, Math.min(form.size, LONGEST_PIPES), WIDTH, 1);
        }

        /** Counts the ways to go on behind a mirror and the number that goes with it. */
        private long countFrom(int depth, int form, int lastMirror, int lastNumber) {
            if (depth >= form || depth >= LONGEST_PIPES) {
                return 1;
            }
            long count = 0;
            for (int s = 0; s < bonds.size; s++) {
                if (bonds.falls(falls, depth * WIDTH, s)) {
                    bonds.copyTurned(falls, depth * WIDTH, (depth + 1) * WIDTH, s);
                    for (int number = s > lastMirror ? lastNumber + 1 : lastNumber; number <= s + 1; number++) {
                        count += countFrom(depth + 1, form, s, number);
                    }
                }
            }
            return count;
        }
    }

    /** Gives the mirrors other names. */
    private static final class Names {
        private static final int[] BOND_OF_DIGIT = {2, 3, 4, 6, 0};
        private static final int[] FIRST_PAIR = {0, 4, 7, 9};
        private final Bonds bonds;
        private final int[] digits = new int[NAME_PAIRS];
        private final int[] names = new int[WIDTH];

        Names(Bonds bonds) {
            this.bonds = bonds;
        }

        /** Reads the digits; answers whether all are those of bonds. */
        boolean read(long told) {
            long rest = told;
            for (int i = NAME_PAIRS - 1; i >= 0; i--) {
                int digit = (int) (rest % 10);
                if (digit < 0 || digit >= WIDTH) {
                    return false;
                }
                digits[i] = digit;
                rest /= 10;
            }
            return true;
        }

        /** Whether some names make the bonds the same. */
        boolean fit() {
            return fitFrom(0);
        }

        private boolean fitFrom(int place) {
            if (place >= bonds.size || place >= WIDTH) {
                return true;
            }
            for (int name = 0; name < bonds.size; name++) {
                names[place] = name;
                if (agrees(place) && fitFrom(place + 1)) {
                    return true;
                }
            }
            return false;
        }

        private boolean agrees(int place) {
            for (int i = 0; i < place && i < WIDTH; i++) {
                if (names[i] == names[place] || bondOf(names[i], names[place]) != bonds.bondAt(i, place)) {
                    return false;
                }
            }
            return true;
        }

        private int bondOf(int one, int two) {
            int low = Math.min(one, two);
            int high = Math.max(one, two);
            if (low < 0 || low >= FIRST_PAIR.length) {
                return -1;
            }
            int pair = FIRST_PAIR[low] + high - low - 1;
            return pair >= 0 && pair < NAME_PAIRS ? BOND_OF_DIGIT[digits[pair]] : -1;
        }
    }
}
