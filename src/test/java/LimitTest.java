import java.util.LinkedHashMap;
import java.util.Map;

/** The limits that the document's terms name: how many there may be of each, what is finite here, what is refused. */
public final class LimitTest {
    private static final Class<IllegalStateException> STATE = IllegalStateException.class;
    private static final Class<UnsupportedOperationException> UNSUPPORTED = UnsupportedOperationException.class;
    private static final Class<IndexOutOfBoundsException> INDEX = IndexOutOfBoundsException.class;
    private static final Class<IllegalArgumentException> ARGUMENT = IllegalArgumentException.class;
    private static final int[] BONDS = {2, 3, 4, 6, 0};

    public static void main(String[] args) {
        elementsFull();
        refusedAheadOfFull();
        lengthsByWords();
        lengthsBySwallowing();
        lengthsByProducts();
        onTheWay();
        walls();
        braidsFull();
        finiteGroups();
        finiteCalls();
        ordersOfAll();
        nothingAtAll();
        Check.end("LimitTest");
    }

    /** Each way to add an element; the workshop has a word, a braid and an element. */
    private static Map<String, Twin.Call> adders() {
        Map<String, Twin.Call> all = new LinkedHashMap<>();
        all.put("9 element", Bruhatry::element);
        all.put("10 product", x -> x.product(0, 0));
        all.put("11 reverse", x -> x.reverse(0));
        all.put("12 part", x -> x.part(0, 1, true));
        all.put("12 rest", x -> x.part(0, 1, false));
        all.put("13 longest", Bruhatry::longest);
        all.put("14 swallow", Bruhatry::swallow);
        all.put("39 factor", x -> x.factor(0, 0));
        return all;
    }

    private static Bruhatry withElements(int count) {
        Bruhatry x = Shops.exchanges(2);
        Check.addBraid(x, 0, 1);
        x.step(1);
        return Shops.filled(x, count);
    }

    private static void elementsFull() {
        String[] forms = {"[0]", "[]", "[0]", "[0]", "[]", "[0, 1, 0]", "[0]", "[0, 1]"};
        int[] at = {0};
        adders().forEach((name, call) -> {
            for (int count : new int[] {1, 22, 23}) {
                Bruhatry x = withElements(count);
                Check.due(name + " is number " + count, Twin.answer(x, call), count);
                Check.due(name + " counts", x.elements(), count + 1);
                Check.due(name + " has its form", Check.form(x, count), forms[at[0]]);
                Check.due(name + " leaves the first one", Check.form(x, 0), "[0]");
                Check.due(name + " leaves the word", x.erase(), 1);
                Check.due(name + " leaves the steps", x.step(0), 2);
            }
            Twin.refused(name + " when full", () -> withElements(24), STATE, call);
            at[0]++;
        });
        Bruhatry x = withElements(24);
        Check.due("15 all", x.elements(), 24);
        x.bond(0, 1, 3);
        Check.due("15 none after bond", x.elements(), 0);
        Check.due("9 there is room again", x.element(), 0);
        Bruhatry y = withElements(24);
        y.begin(1);
        Check.due("15 none after begin", y.elements(), 0);
        Check.due("9 there is room again", y.element(), 0);
        Twin.refused("9 empty word when full", () -> withoutWord(24), STATE, Bruhatry::element);
        Twin.refused("14 empty word when full", () -> withoutWord(24), STATE, Bruhatry::swallow);
    }

    private static Bruhatry withoutWord(int count) {
        Bruhatry x = withElements(count);
        x.erase();
        return x;
    }

    /** Without end, full, element 0 of length 24 and element 1 of length 1, and a word of length 25. */
    private static Bruhatry endlessFull() {
        Bruhatry x = Shops.endless();
        Check.add(x, Shops.turns(24, 0));
        Shops.filled(x, 24);
        return Check.typed(x, Shops.turns(25, 0));
    }

    private static void refusedAheadOfFull() {
        Twin.refused("9 length ahead of full", LimitTest::endlessFull, UNSUPPORTED, Bruhatry::element);
        Twin.refused("14 length ahead of full", LimitTest::endlessFull, UNSUPPORTED, Bruhatry::swallow);
        Twin.refused("13 not finite ahead of full", LimitTest::endlessFull, UNSUPPORTED, Bruhatry::longest);
        Twin.refused("10 length ahead of full", LimitTest::endlessFull, UNSUPPORTED, x -> x.product(0, 1));
        Twin.refused("10 refused ahead of full", LimitTest::endlessFull, UNSUPPORTED, x -> x.product(0, 0));
        Twin.refused("10 no element ahead of refused", LimitTest::endlessFull, INDEX, x -> x.product(0, 24));
        Twin.refused("10 full", LimitTest::endlessFull, STATE, x -> x.product(1, 0));
        Twin.refused("11 full", LimitTest::endlessFull, STATE, x -> x.reverse(0));
        Twin.refused("12 full", LimitTest::endlessFull, STATE, x -> x.part(0, 3, true));
        Twin.refused("12 no set ahead of full", LimitTest::endlessFull, ARGUMENT, x -> x.part(0, 4, true));
    }

    private static Bruhatry typed(Bruhatry x, int[] word) {
        return Check.typed(x, word);
    }

    /** 0 to n - 1 again and again: of some groups with an end the half of all rounds is the longest element. */
    private static int[] rounds(int mirrors, int size) {
        int[] word = new int[size];
        for (int i = 0; i < size; i++) {
            word[i] = i % mirrors;
        }
        return word;
    }

    private static void lengthsByWords() {
        for (int size : new int[] {0, 1, 23, 24}) {
            Bruhatry x = typed(Shops.endless(), Shops.turns(size, 0));
            Check.due("9 length " + size, x.element(), 0);
            Check.due("16 length " + size, x.length(0), size);
            Check.due("9 the word stays", x.erase(), size);
        }
        for (int size : new int[] {25, 26, 29, 30}) {
            Twin.refused("9 length " + size, () -> typed(Shops.endless(), Shops.turns(size, 0)), UNSUPPORTED,
                    Bruhatry::element);
        }
        int[] shorter = Shops.joined(Shops.turns(27, 0), 0, 1, 0);
        Check.due("9 thirty mirrors of length 24", typed(Shops.endless(), shorter).element(), 0);
        Twin.refused("9 thirty mirrors of length 26", () -> typed(Shops.endless(),
                Shops.joined(Shops.turns(28, 0), 1, 0)), UNSUPPORTED, Bruhatry::element);
        Bruhatry d = typed(Shops.leastTooGreat(), rounds(5, 30));
        Check.due("9 thirty mirrors of a group with an end", d.element(), 0);
        Bruhatry f = typed(Shops.greatest(), rounds(4, 24));
        Check.due("9 length 24 where it is finite", f.element(), 0);
        Check.due("16 length 24 where it is finite", f.length(0), 24);
        Check.due("9 thirty mirrors where it is finite", typed(f, rounds(4, 30)).element(), 1);
        Check.due("16 thirty mirrors where it is finite", f.length(1), 18);
        // A group of 3840 elements is not finite here: its longest one has the length 25.
        Bruhatry b = typed(Shops.lengthOf25(), rounds(5, 24));
        Check.due("9 length 24 of 25", b.element(), 0);
        Check.due("16 length 24 of 25", b.length(0), 24);
        Twin.refused("9 length 25 of 25", () -> typed(Shops.lengthOf25(), rounds(5, 25)), UNSUPPORTED,
                Bruhatry::element);
        Check.due("9 twenty-six, length 24 of 25", typed(b, rounds(5, 26)).element(), 1);
        Check.due("16 twenty-six, length 24 of 25", b.length(1), 24);
    }

    private static void lengthsBySwallowing() {
        for (int size : new int[] {0, 1, 23, 24}) {
            Bruhatry x = typed(Shops.endless(), Shops.turns(size, 1));
            Check.due("14 length " + size, x.swallow(), 0);
            Check.due("14 length " + size, x.length(0), size);
        }
        for (int size : new int[] {25, 30}) {
            Twin.refused("14 length " + size, () -> typed(Shops.endless(), Shops.turns(size, 1)), UNSUPPORTED,
                    Bruhatry::swallow);
        }
        int[] twice = Shops.joined(Shops.joined(Shops.turns(24, 0), 1, 1, 1), 1, 1, 1);
        Bruhatry x = typed(Shops.endless(), twice);
        Check.due("14 thirty mirrors, 24 swallowed", x.swallow(), 0);
        Check.due("14 thirty mirrors, 24 swallowed", x.length(0), 24);
        Twin.refused("14 thirty mirrors, 25 swallowed", () -> typed(Shops.endless(),
                Shops.joined(Shops.joined(Shops.turns(24, 0), 1, 1, 1), 0, 0, 0)), UNSUPPORTED, Bruhatry::swallow);
        Bruhatry f = typed(Shops.greatest(), rounds(4, 30));
        Check.due("14 no more than the longest one", f.swallow(), 0);
        Check.due("14 no more than the longest one", f.length(0), 24);
        Check.due("14 it is the longest one", f.areSame(0, f.longest()), true);
        Check.due("14 the last of 24", typed(f, rounds(4, 24)).swallow(), 2);
        Twin.refused("14 the longest one of 25", () -> typed(Shops.lengthOf25(), rounds(5, 30)), UNSUPPORTED,
                Bruhatry::swallow);
        Check.due("14 one less", typed(Shops.lengthOf25(), rounds(5, 24)).swallow(), 0);
    }

    private static Bruhatry two(Bruhatry x, int[] one, int[] other) {
        Check.add(x, one);
        Check.add(x, other);
        Check.typed(x, 0);
        x.step(0);
        return x;
    }

    private static void lengthsByProducts() {
        for (int size : new int[] {0, 1, 12, 24}) {
            Bruhatry x = two(Shops.endless(), Shops.turns(24 - size, 0), Shops.turns(size, size % 2));
            Check.due("10 length 24", x.product(0, 1), 2);
            Check.due("10 length 24", x.length(2), 24);
        }
        for (int size : new int[] {1, 2, 6, 7, 12, 24}) {
            Twin.refused("10 length above 24", () -> two(Shops.endless(), Shops.turns(24, 0), Shops.turns(size, 0)),
                    UNSUPPORTED, x -> x.product(0, 1));
        }
        Twin.refused("10 length 25", () -> two(Shops.endless(), Shops.turns(13, 0), Shops.turns(12, 1)), UNSUPPORTED,
                x -> x.product(0, 1));
        Twin.refused("10 length 25 of 25", () -> two(Shops.lengthOf25(), rounds(5, 24), new int[] {4}), UNSUPPORTED,
                x -> x.product(0, 1));
        Bruhatry f = Shops.greatest();
        f.longest();
        Check.due("10 the longest one twice", f.length(f.product(0, 0)), 0);
        Check.due("10 the longest one by 1", f.length(f.product(0, 1)), 24);
        Check.due("10 1 by 1", f.length(f.product(1, 1)), 0);
    }

    /** Ups and downs go on in two pairs of mirrors that have nothing to do with each other. */
    private static Bruhatry twoEndless() {
        return Check.line(0, 2, 0);
    }

    private static int[] pair(int size, int least) {
        int[] word = Shops.turns(size, 0);
        for (int i = 0; i < size; i++) {
            word[i] += least;
        }
        return word;
    }

    /**
     * The first one has 2 mirrors of one pair and 22 of the other; by the second one the first pair gets longer by some,
     * and then, if the first pair is the one of lesser numbers, the second pair shorter.
     */
    private static Bruhatry upAndDown(int up, int down, int upPair) {
        int[] first = Shops.joined(pair(2, upPair), pair(22, 2 - upPair));
        int[] back = pair(down, 2 - upPair);
        for (int i = 0; i < down; i++) {
            back[i] = 2 - upPair + (i + 1) % 2;
        }
        return two(twoEndless(), first, Shops.joined(pair(up, upPair), back));
    }

    private static void onTheWay() {
        Bruhatry x = upAndDown(6, 6, 0);
        Check.due("10 thirty on the way", x.product(0, 1), 2);
        Check.due("10 then 24", x.length(2), 24);
        Bruhatry y = upAndDown(6, 18, 0);
        Check.due("10 thirty on the way", y.product(0, 1), 2);
        Check.due("10 then 12", y.length(2), 12);
        Twin.refused("10 thirty on the way, then 25", () -> upAndDown(6, 5, 0), UNSUPPORTED, z -> z.product(0, 1));
        for (int down : new int[] {0, 7, 10, 17}) {
            Twin.refused("10 thirty-one on the way, then fewer", () -> upAndDown(7, down, 0), UNSUPPORTED,
                    z -> z.product(0, 1));
        }
        // The form of the second one has the lesser mirrors first: here they make it shorter before it gets longer.
        Bruhatry z = upAndDown(7, 7, 2);
        Check.due("10 shorter first", z.product(0, 1), 2);
        Check.due("10 shorter first, then 24", z.length(2), 24);
        Bruhatry v = upAndDown(12, 12, 2);
        Check.due("10 shorter first, by far", v.length(v.product(0, 1)), 24);
        Twin.refused("10 shorter first, then 25", () -> upAndDown(7, 6, 2), UNSUPPORTED, w -> w.product(0, 1));
        Check.due("10 what is refused leaves room", Twin.answer(x, w -> w.product(0, 0)), UNSUPPORTED.getSimpleName());
        Check.due("10 what is refused leaves room", x.reverse(0), 3);
    }

    /** The walls from an element to another one: the way is from the first one in reverse. */
    private static Bruhatry fromReverse(Bruhatry x) {
        x.reverse(0);
        return x;
    }

    private static void walls() {
        for (int size : new int[] {0, 1, 5, 6}) {
            Twin.told("43 walls " + (24 + size), () -> two(Shops.endless(), Shops.turns(24, 0), Shops.turns(size, 1)),
                    24 + size, x -> x.walls(0, 1));
        }
        for (int size : new int[] {7, 8, 24}) {
            Twin.refused("43 walls " + (24 + size), () -> two(Shops.endless(), Shops.turns(24, 0),
                    Shops.turns(size, 1)), UNSUPPORTED, x -> x.walls(0, 1));
        }
        Twin.told("43 walls of itself", () -> two(Shops.endless(), Shops.turns(24, 0), new int[0]), 0,
                x -> x.walls(0, 0));
        Twin.told("43 walls from 1", () -> two(Shops.endless(), Shops.turns(24, 0), new int[0]), 24,
                x -> x.walls(1, 0));
        Twin.told("43 walls to 1", () -> two(Shops.endless(), Shops.turns(24, 0), new int[0]), 24,
                x -> x.walls(0, 1));
        Twin.told("43 thirty on the way, then 24", () -> fromReverse(upAndDown(6, 6, 0)), 24, x -> x.walls(2, 1));
        Twin.told("43 thirty on the way, then 25", () -> fromReverse(upAndDown(6, 5, 0)), 25, x -> x.walls(2, 1));
        Twin.refused("43 thirty-one on the way", () -> fromReverse(upAndDown(7, 17, 0)), UNSUPPORTED,
                x -> x.walls(2, 1));
        Twin.told("43 shorter first", () -> fromReverse(upAndDown(7, 7, 2)), 24, x -> x.walls(2, 1));
        Twin.told("43 shorter first, then 30", () -> fromReverse(upAndDown(13, 7, 2)), 30, x -> x.walls(2, 1));
        Twin.refused("43 shorter first, then 31", () -> fromReverse(upAndDown(14, 7, 2)), UNSUPPORTED,
                x -> x.walls(2, 1));
        Bruhatry f = Shops.greatest();
        f.longest();
        f.element();
        Check.due("43 all walls", f.walls(0, 1), 24);
        Check.due("43 all walls", f.walls(1, 0), 24);
        Twin.told("43 when full", LimitTest::endlessFull, 23, x -> x.walls(0, 1));
    }

    private static Bruhatry withBraids(int count) {
        Bruhatry x = Shops.braided(Shops.busy(Shops.exchanges(3), new int[] {0}), count);
        x.step(1);
        x.step(-2);
        x.step(2);
        return x;
    }

    private static void braidsFull() {
        for (int count : new int[] {0, 1, 6, 7}) {
            Bruhatry x = withBraids(count);
            Check.due("36 braid number " + count, x.braid(), count);
            Check.due("36 its row is empty then", x.step(1), 1);
        }
        Twin.refused("36 when there are 8", () -> withBraids(8), STATE, Bruhatry::braid);
        Twin.refused("36 when there are 8, nothing told", () -> Shops.braided(Shops.exchanges(3), 8), STATE,
                Bruhatry::braid);
        Bruhatry x = withBraids(8);
        x.bond(0, 2, 2);
        Check.due("36 there is room again", x.braid(), 0);
        Check.due("36 the steps have stayed", x.areBraids(0, Check.addBraid(x, 2)), true);
        Bruhatry y = withBraids(8);
        y.begin(2);
        Check.due("36 there is room again", y.braid(), 0);
        Check.due("36 the steps are gone", y.factors(0), 0);
        for (int size : new int[] {0, 1, 16}) {
            Bruhatry z = Shops.exchanges(2);
            for (int i = 0; i < size; i++) {
                z.step(i % 2 == 0 ? 0 : -1);
            }
            Check.due("36 steps " + size, z.braid(), 0);
            Check.due("36 steps " + size, z.powerOf(0) * 10 + z.factors(0), size % 2);
        }
        Twin.refused("36 not finite", () -> stepped(Shops.endless(), 3), UNSUPPORTED, Bruhatry::braid);
        Twin.refused("36 not finite, nothing told", Shops::endless, UNSUPPORTED, Bruhatry::braid);
        Twin.refused("36 not finite, full", () -> stepped(Shops.endless(), 16), UNSUPPORTED, Bruhatry::braid);
        Twin.refused("36 not finite here", () -> stepped(Shops.leastTooGreat(), 3), UNSUPPORTED, Bruhatry::braid);
        Twin.refused("36 not finite here, nothing told", Shops::lengthOf25, UNSUPPORTED, Bruhatry::braid);
    }

    private static Bruhatry stepped(Bruhatry x, int size) {
        for (int i = 0; i < size; i++) {
            x.step(i % 2 == 0 ? 1 : -1);
        }
        return x;
    }

    private static void finiteGroups() {
        Check.due("5 greatest", Shops.greatest().order(), 1152);
        Check.due("5 greatest, other names", Check.shop(4, 2, 0, 3, 0, 3, 4, 3, 1, 3).order(), 1152);
        Check.due("5 next to it", Check.line(3, 3, 4, 2).order(), 768);
        Check.due("5 all exchanges", Shops.exchanges(5).order(), 720);
        Check.due("5 one too great", Shops.leastTooGreat().order(), -1);
        Check.due("5 twice the greatest", Check.line(3, 4, 3, 2).order(), -1);
        Check.due("5 longest one of 25", Shops.lengthOf25().order(), -1);
        Check.due("5 without end", Shops.endless().order(), -1);
        Check.due("5 least", new Bruhatry().order(), 2);
        Twin.told("5 changes nothing", () -> withBraids(3), 24, Bruhatry::order);
        Twin.told("5 changes nothing", LimitTest::endlessFull, -1, Bruhatry::order);
        Bruhatry x = Check.shop(5);
        int[] wants = {64, 48, 96, -1, 32};
        int[] bonds = {4, 3, 6, 0, 2};
        for (int i = 0; i < 5; i++) {
            x.bond(0, 1, bonds[i]);
            Check.due("5 after another bond", x.order(), wants[i]);
        }
        x.begin(1);
        Check.due("5 after begin", x.order(), 2);
    }

    /** The calls that answer for groups alone that are finite here; the workshop has an element. */
    private static Map<String, Twin.Call> ofFinite() {
        Map<String, Twin.Call> all = new LinkedHashMap<>();
        all.put("13 longest", Bruhatry::longest);
        all.put("22 isBelow m", x -> x.isBelow(0, 0, 'm'));
        all.put("29 reflections", Bruhatry::reflections);
        all.put("30 distance", x -> x.distance(0));
        all.put("31 ofDistance", x -> x.ofDistance(1));
        all.put("32 notCrossing", Bruhatry::notCrossing);
        all.put("33 chains", Bruhatry::chains);
        all.put("34 chainParts", Bruhatry::chainParts);
        all.put("36 braid", Bruhatry::braid);
        return all;
    }

    private static void finiteCalls() {
        Object[] greatest = {1, true, 24, 1, 24, 105, 432, 1, 0};
        Object[] least = {1, true, 1, 1, 1, 2, 1, 1, 0};
        int[] at = {0};
        ofFinite().forEach((name, call) -> {
            Check.due(name + " of 1152", Twin.answer(Shops.busy(Shops.greatest(), new int[] {0}), call),
                    greatest[at[0]]);
            Check.due(name + " of 2", Twin.answer(Shops.busy(new Bruhatry(), new int[] {0}), call), least[at[0]]);
            Twin.refused(name + " of 1920", () -> Shops.busy(Shops.leastTooGreat(), new int[] {0}), UNSUPPORTED, call);
            Twin.refused(name + " of 2304", () -> Shops.busy(Check.line(3, 4, 3, 2), new int[] {0}), UNSUPPORTED, call);
            Twin.refused(name + " of 3840", () -> Shops.busy(Shops.lengthOf25(), new int[] {0}), UNSUPPORTED, call);
            Twin.refused(name + " without end", () -> Shops.busy(Shops.endless(), new int[] {0}), UNSUPPORTED, call);
            Twin.refused(name + " without end after an end", () -> {
                Bruhatry x = Shops.exchanges(3);
                x.chains();
                x.bond(0, 1, 0);
                return Shops.busy(x, new int[] {0});
            }, UNSUPPORTED, call);
            Bruhatry x = Shops.busy(Shops.endless(), new int[] {0});
            Check.due(name + " not yet", Twin.answer(x, call), UNSUPPORTED.getSimpleName());
            x.bond(0, 1, 3);
            x.element();
            Check.due(name + " with an end then", Twin.answer(x, call) instanceof String, false);
            at[0]++;
        });
        Twin.refused("13 not finite here, ahead of full", () -> Shops.filled(Shops.leastTooGreat(), 24), UNSUPPORTED,
                Bruhatry::longest);
    }

    /** All groups of up to four mirrors, and some of five, against the list of those that have an end. */
    private static void ordersOfAll() {
        int[] counts = {1, 1, 5, 125, 15625};
        for (int n = 1; n <= 4; n++) {
            for (int told = 0; told < counts[n]; told++) {
                orderOf(n, told);
            }
        }
        java.util.Random lot = new java.util.Random(5);
        for (int i = 0; i < 1500; i++) {
            int told = 0;
            for (int k = 0; k < 10; k++) {
                int digit = lot.nextInt(4);
                told = told * 5 + (digit < 2 ? 0 : digit == 2 ? 1 : lot.nextInt(5));
            }
            orderOf(5, told);
        }
    }

    private static void orderOf(int n, int told) {
        int[][] bond = new int[n][n];
        Bruhatry x = Check.shop(n);
        int left = told;
        for (int s = 0; s < n; s++) {
            for (int t = s + 1; t < n; t++) {
                bond[s][t] = BONDS[left % 5];
                bond[t][s] = bond[s][t];
                x.bond(s, t, bond[s][t]);
                left /= 5;
            }
        }
        long order = 1;
        boolean[] isDone = new boolean[n];
        for (int s = 0; s < n; s++) {
            order *= isDone[s] ? 1 : orderOfPart(bond, isDone, s);
        }
        Check.due("5 order of " + java.util.Arrays.deepToString(bond), x.order(), order > 1200 ? -1 : order);
    }

    /** The order of all mirrors that hang together with one, by their number, bonds and neighbours. */
    private static long orderOfPart(int[][] bond, boolean[] isDone, int from) {
        long endless = 10000;
        int[] found = new int[bond.length];
        int size = 1;
        found[0] = from;
        isDone[from] = true;
        int edges = 0;
        int most = 0;
        int[] heavy = new int[7];
        for (int i = 0; i < size; i++) {
            int degree = 0;
            for (int t = 0; t < bond.length; t++) {
                if (t != found[i] && bond[found[i]][t] != 2) {
                    degree++;
                    heavy[bond[found[i]][t]]++;
                    if (!isDone[t]) {
                        isDone[t] = true;
                        found[size++] = t;
                    }
                }
            }
            edges += degree;
            most = Math.max(most, degree);
        }
        if (heavy[0] > 0 || edges / 2 != size - 1 || heavy[4] > 2 || heavy[6] > 0 && size > 2) {
            return endless;
        }
        if (size == 1) {
            return 2;
        }
        if (size == 2) {
            return 2L * bond[found[0]][found[1]];
        }
        boolean isFour = heavy[4] == 2;
        boolean isStar = most == 3;
        boolean isAtEnd = isFour && isFourAtEnd(bond, found, size);
        if (size == 3) {
            return isFour ? 48 : 24;
        }
        if (size == 4) {
            return isStar ? (isFour ? endless : 192) : !isFour ? 120 : isAtEnd ? 384 : 1152;
        }
        return most > 2 || isFour ? endless : 720;
    }

    private static boolean isFourAtEnd(int[][] bond, int[] found, int size) {
        for (int i = 0; i < size; i++) {
            int degree = 0;
            boolean hasFour = false;
            for (int k = 0; k < size; k++) {
                if (k != i && bond[found[i]][found[k]] != 2) {
                    degree++;
                    hasFour |= bond[found[i]][found[k]] == 4;
                }
            }
            if (degree == 1 && hasFour) {
                return true;
            }
        }
        return false;
    }

    /** What 1, the element of no mirror, answers; and with it all that is asked of it and itself. */
    private static void nothingAtAll() {
        for (int n = 1; n <= 5; n++) {
            int size = n;
            Twin.Recipe recipe = () -> {
                Bruhatry x = Shops.exchanges(size);
                x.element();
                return x;
            };
            Map<String, Twin.Call> zero = new LinkedHashMap<>();
            zero.put("16 length", x -> x.length(0));
            zero.put("18 left", x -> x.descents(0, true));
            zero.put("18 right", x -> x.descents(0, false));
            zero.put("25 power 1", x -> x.r(0, 0, 1));
            zero.put("26 power 1", x -> x.p(0, 0, 1));
            zero.put("27 mu", x -> x.mu(0, 0));
            zero.put("28 power 1", x -> x.algebra(0, 0, 0, 1));
            zero.put("30 distance", x -> x.distance(0));
            zero.put("43 walls", x -> x.walls(0, 0));
            zero.put("44 brings", x -> x.brings(0, 0));
            zero.put("45 tower", x -> x.tower(0, 1));
            zero.forEach((name, call) -> Twin.told(name + " of 1", recipe, 0, call));
            Map<String, Twin.Call> one = new LinkedHashMap<>();
            one.put("15 elements", Bruhatry::elements);
            one.put("19 root", x -> x.root(0, size - 1, size - 1));
            one.put("20 words", x -> x.words(0));
            one.put("21 areSame", x -> x.areSame(0, 0) ? 1 : 0);
            for (char kind : "lrs".toCharArray()) {
                one.put("23 between " + kind, x -> x.between(0, 0, kind));
                one.put("24 moebius " + kind, x -> x.moebius(0, 0, kind));
                one.put("22 isBelow " + kind, x -> x.isBelow(0, 0, kind) ? 1 : 0);
            }
            one.put("22 isBelow m", x -> x.isBelow(0, 0, 'm') ? 1 : 0);
            one.put("25 power 0", x -> x.r(0, 0, 0));
            one.put("26 power 0", x -> x.p(0, 0, 0));
            one.put("28 power 0", x -> x.algebra(0, 0, 0, 0));
            one.put("46 pipes", x -> x.pipes(0));
            one.forEach((name, call) -> Twin.told(name + " of 1", recipe, 1, call));
            Twin.told("45 tower of 1", recipe, size + 1, x -> x.tower(0, 0));
            Bruhatry x = recipe.make();
            Check.due("10 1 by 1", Check.form(x, x.product(0, 0)), "[]");
            Check.due("11 1 in reverse", Check.form(x, x.reverse(0)), "[]");
            Check.due("14 nothing swallowed", Check.form(x, x.swallow()), "[]");
            Check.due("36 nothing told", x.braid(), 0);
            Check.due("37 nothing told", x.powerOf(0), 0);
            Check.due("38 nothing told", x.factors(0), 0);
            Check.due("41 nothing told", x.cycle(0), 0);
            Check.due("42 nothing told", x.summit(0), 0);
            Check.due("40 nothing told", x.areBraids(0, 0), true);
        }
    }
}
