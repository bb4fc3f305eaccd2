import java.util.LinkedHashMap;
import java.util.Map;

/**
 * Each argument that is the number of an element, of a braid, or of a mirror: the least and the greatest that is there,
 * those beside them, none at all, all gone again, and that its exception comes ahead of each other one.
 */
public final class NumberTest {
    private static final Class<IndexOutOfBoundsException> INDEX = IndexOutOfBoundsException.class;
    private static final int[] FAR = {-1, Integer.MIN_VALUE, Integer.MAX_VALUE, -2, 24, 25, 512, 1 << 16};

    private interface ByNumber {
        Object of(Bruhatry x, int number);
    }

    public static void main(String[] args) {
        elementsThere();
        elementsNotThere();
        elementsGone();
        elementsAheadOfAll();
        braidsThere();
        braidsNotThere();
        mirrors();
        mirrorsAheadOfAll();
        Check.end("NumberTest");
    }

    /** Calls that tell of an element; for each argument one. */
    private static Map<String, ByNumber> asked() {
        Map<String, ByNumber> all = new LinkedHashMap<>();
        all.put("16 length", Bruhatry::length);
        all.put("18 descents left", (x, i) -> x.descents(i, true));
        all.put("18 descents right", (x, i) -> x.descents(i, false));
        all.put("19 root", (x, i) -> x.root(i, 0, 0));
        all.put("20 words", Bruhatry::words);
        all.put("21 areSame lower", (x, i) -> x.areSame(i, 0));
        all.put("21 areSame upper", (x, i) -> x.areSame(0, i));
        for (char kind : "lrs".toCharArray()) {
            all.put("22 isBelow lower " + kind, (x, i) -> x.isBelow(i, 0, kind));
            all.put("22 isBelow upper " + kind, (x, i) -> x.isBelow(0, i, kind));
            all.put("23 between lower " + kind, (x, i) -> x.between(i, 0, kind));
            all.put("23 between upper " + kind, (x, i) -> x.between(0, i, kind));
            all.put("24 moebius lower " + kind, (x, i) -> x.moebius(i, 0, kind));
            all.put("24 moebius upper " + kind, (x, i) -> x.moebius(0, i, kind));
        }
        all.put("22 isBelow lower m", (x, i) -> x.isBelow(i, 0, 'm'));
        all.put("22 isBelow upper m", (x, i) -> x.isBelow(0, i, 'm'));
        all.put("25 r lower", (x, i) -> x.r(i, 0, 0));
        all.put("25 r upper", (x, i) -> x.r(0, i, 0));
        all.put("26 p lower", (x, i) -> x.p(i, 0, 0));
        all.put("26 p upper", (x, i) -> x.p(0, i, 0));
        all.put("27 mu lower", (x, i) -> x.mu(i, 0));
        all.put("27 mu upper", (x, i) -> x.mu(0, i));
        all.put("28 algebra one", (x, i) -> x.algebra(i, 0, 0, 0));
        all.put("28 algebra two", (x, i) -> x.algebra(0, i, 0, 0));
        all.put("28 algebra of", (x, i) -> x.algebra(0, 0, i, 0));
        all.put("30 distance", Bruhatry::distance);
        all.put("43 walls lower", (x, i) -> x.walls(i, 0));
        all.put("43 walls upper", (x, i) -> x.walls(0, i));
        all.put("44 brings", (x, i) -> x.brings(i, 0));
        all.put("45 tower", (x, i) -> x.tower(i, 0));
        all.put("46 pipes", Bruhatry::pipes);
        return all;
    }

    /** Calls that add an element. */
    private static Map<String, ByNumber> adding() {
        Map<String, ByNumber> all = new LinkedHashMap<>();
        all.put("10 product one", (x, i) -> x.product(i, 0));
        all.put("10 product two", (x, i) -> x.product(0, i));
        all.put("10 product both", (x, i) -> x.product(i, i));
        all.put("11 reverse", Bruhatry::reverse);
        all.put("12 part", (x, i) -> x.part(i, 0, true));
        all.put("12 rest", (x, i) -> x.part(i, 1, false));
        return all;
    }

    private static Map<String, ByNumber> withLetters() {
        Map<String, ByNumber> all = new LinkedHashMap<>(asked());
        all.put("17 letter", (x, i) -> x.letter(i, 0));
        return all;
    }

    private static Map<String, ByNumber> everyOne() {
        Map<String, ByNumber> all = withLetters();
        all.putAll(adding());
        return all;
    }

    private static Bruhatry three() {
        return Shops.busy(Shops.exchanges(3), new int[] {0}, new int[] {1, 2}, new int[] {2, 1, 0});
    }

    private static Bruhatry none() {
        return Shops.busy(Shops.exchanges(3));
    }

    private static Bruhatry all24() {
        return Shops.filled(Shops.busy(Shops.exchanges(2), new int[] {1, 0}), 24);
    }

    private static void elementsThere() {
        withLetters().forEach((name, call) -> {
            for (int i = 0; i < 3; i++) {
                int number = i;
                Twin.answered(name + " of " + i, NumberTest::three, x -> call.of(x, number));
            }
            Twin.answered(name + " of 0 of 24", NumberTest::all24, x -> call.of(x, 0));
            Twin.answered(name + " of 23 of 24", NumberTest::all24, x -> call.of(x, 23));
        });
        adding().forEach((name, call) -> {
            for (int i = 0; i < 3; i++) {
                Check.due(name + " of " + i, call.of(three(), i), 3);
            }
        });
    }

    private static void elementsNotThere() {
        everyOne().forEach((name, call) -> {
            for (int number : FAR) {
                Twin.refused(name + " of " + number, NumberTest::three, INDEX, x -> call.of(x, number));
            }
            Twin.refused(name + " of 3", NumberTest::three, INDEX, x -> call.of(x, 3));
            Twin.refused(name + " of 24", NumberTest::all24, INDEX, x -> call.of(x, 24));
            Twin.refused(name + " of -1", NumberTest::all24, INDEX, x -> call.of(x, -1));
            for (int number : new int[] {0, -1, 1}) {
                Twin.refused(name + " without elements", NumberTest::none, INDEX, x -> call.of(x, number));
                Twin.refused(name + " of a new one", Bruhatry::new, INDEX, x -> call.of(x, number));
            }
        });
    }

    private static Bruhatry begunAgain() {
        Bruhatry x = three();
        x.begin(3);
        x.bond(0, 1, 3);
        x.bond(1, 2, 3);
        return x;
    }

    private static Bruhatry bondedAgain() {
        Bruhatry x = three();
        x.bond(2, 1, 3);
        return x;
    }

    private static void elementsGone() {
        everyOne().forEach((name, call) -> {
            for (int i = 0; i < 3; i++) {
                int number = i;
                Twin.refused(name + " after begin", NumberTest::begunAgain, INDEX, x -> call.of(x, number));
                Twin.refused(name + " after bond", NumberTest::bondedAgain, INDEX, x -> call.of(x, number));
            }
        });
    }

    /** Whatever else is wrong, too, the number of an element is told first; element 0 is long, and all 24 are there. */
    private static void elementsAheadOfAll() {
        Map<String, ByNumber> all = adding();
        all.put("10 product one", (x, i) -> x.product(i, 0));
        all.put("12 part, no set", (x, i) -> x.part(i, 4, true));
        all.put("12 rest, no set", (x, i) -> x.part(i, -1, false));
        all.put("17 letter, none", (x, i) -> x.letter(i, 99));
        all.put("17 letter, below 0", (x, i) -> x.letter(i, -1));
        all.put("20 words", Bruhatry::words);
        char[] kinds = {'m', 'x', '\0', 'L'};
        for (char kind : kinds) {
            all.put("22 isBelow lower " + (int) kind, (x, i) -> x.isBelow(i, 0, kind));
            all.put("22 isBelow upper " + (int) kind, (x, i) -> x.isBelow(0, i, kind));
            all.put("23 between lower " + (int) kind, (x, i) -> x.between(i, 0, kind));
            all.put("23 between upper " + (int) kind, (x, i) -> x.between(0, i, kind));
            all.put("24 moebius lower " + (int) kind, (x, i) -> x.moebius(i, 0, kind));
            all.put("24 moebius upper " + (int) kind, (x, i) -> x.moebius(0, i, kind));
        }
        all.put("23 between lower, upper long", (x, i) -> x.between(i, 0, 's'));
        all.put("24 moebius lower, upper long", (x, i) -> x.moebius(i, 0, 'r'));
        for (int power : new int[] {0, -1}) {
            all.put("25 r lower " + power, (x, i) -> x.r(i, 0, power));
            all.put("25 r upper " + power, (x, i) -> x.r(0, i, power));
            all.put("26 p lower " + power, (x, i) -> x.p(i, 0, power));
            all.put("26 p upper " + power, (x, i) -> x.p(0, i, power));
            all.put("28 algebra one " + power, (x, i) -> x.algebra(i, 0, 0, power));
            all.put("28 algebra two " + power, (x, i) -> x.algebra(0, i, 0, power));
            all.put("28 algebra of " + power, (x, i) -> x.algebra(0, 0, i, power));
        }
        all.put("27 mu lower", (x, i) -> x.mu(i, 0));
        all.put("27 mu upper", (x, i) -> x.mu(0, i));
        all.put("30 distance", Bruhatry::distance);
        all.put("43 walls lower", (x, i) -> x.walls(i, 0));
        all.put("44 brings, no place", (x, i) -> x.brings(i, 9));
        all.put("44 brings", (x, i) -> x.brings(i, 0));
        all.put("45 tower, no row", (x, i) -> x.tower(i, -1));
        all.put("45 tower", (x, i) -> x.tower(i, 0));
        all.put("46 pipes", Bruhatry::pipes);
        all.forEach((name, call) -> {
            for (int number : new int[] {24, -1}) {
                Twin.refused(name + ": no element first", NumberTest::longAndFull, INDEX, x -> call.of(x, number));
            }
        });
    }

    private static Bruhatry longAndFull() {
        return Shops.filled(Shops.busy(Shops.endless(), Shops.turns(24, 0)), 24);
    }

    private static Map<String, ByNumber> ofBraid() {
        Map<String, ByNumber> all = new LinkedHashMap<>();
        all.put("37 powerOf", Bruhatry::powerOf);
        all.put("38 factors", Bruhatry::factors);
        all.put("40 areBraids braid", (x, i) -> x.areBraids(i, 0));
        all.put("40 areBraids other", (x, i) -> x.areBraids(0, i));
        all.put("42 summit", Bruhatry::summit);
        return all;
    }

    private static Bruhatry eightBraids() {
        return Shops.busy(Shops.braided(Shops.exchanges(3), 8), new int[] {0});
    }

    private static Bruhatry twoBraids() {
        return Shops.busy(Shops.braided(Shops.exchanges(3), 2), new int[] {0});
    }

    private static void braidsThere() {
        ofBraid().forEach((name, call) -> {
            Twin.answered(name + " of 0", NumberTest::twoBraids, x -> call.of(x, 0));
            Twin.answered(name + " of 1", NumberTest::twoBraids, x -> call.of(x, 1));
            Twin.answered(name + " of 7", NumberTest::eightBraids, x -> call.of(x, 7));
        });
        Check.due("39 factor of 1", twoBraids().factor(1, 0), 1);
        Check.due("39 factor of 7", eightBraids().factor(7, 0), 1);
        Check.due("41 cycle 1", twoBraids().cycle(1), -1);
        Check.due("41 cycle 7", eightBraids().cycle(7), -1);
    }

    private static Bruhatry braidsGoneByBegin() {
        Bruhatry x = twoBraids();
        x.begin(3);
        return x;
    }

    private static Bruhatry braidsGoneByBond() {
        Bruhatry x = twoBraids();
        x.bond(0, 2, 2);
        return x;
    }

    private static void braidsNotThere() {
        Map<String, ByNumber> all = ofBraid();
        all.put("39 factor", (x, i) -> x.factor(i, 0));
        all.put("39 factor, none", (x, i) -> x.factor(i, 99));
        all.put("39 factor, below 0", (x, i) -> x.factor(i, -1));
        all.put("41 cycle", Bruhatry::cycle);
        all.forEach((name, call) -> {
            for (int number : FAR) {
                Twin.refused(name + " of " + number, NumberTest::twoBraids, INDEX, x -> call.of(x, number));
            }
            Twin.refused(name + " of 2", NumberTest::twoBraids, INDEX, x -> call.of(x, 2));
            Twin.refused(name + " of 8", NumberTest::eightBraids, INDEX, x -> call.of(x, 8));
            Twin.refused(name + " without", NumberTest::none, INDEX, x -> call.of(x, 0));
            Twin.refused(name + " of a new one", Bruhatry::new, INDEX, x -> call.of(x, 0));
            Twin.refused(name + " after begin", NumberTest::braidsGoneByBegin, INDEX, x -> call.of(x, 0));
            Twin.refused(name + " after bond", NumberTest::braidsGoneByBond, INDEX, x -> call.of(x, 1));
        });
        Twin.refused("39 no braid ahead of full", () -> Shops.filled(twoBraids(), 24), INDEX, x -> x.factor(2, 0));
        Twin.refused("39 no braid ahead of all", () -> Shops.filled(twoBraids(), 24), INDEX, x -> x.factor(2, 9));
    }

    private static Map<String, ByNumber> ofMirror() {
        Map<String, ByNumber> all = new LinkedHashMap<>();
        all.put("3 bond one", (x, s) -> x.bond(s, s == 0 ? 1 : 0, 3));
        all.put("3 bond two", (x, s) -> x.bond(s == 0 ? 1 : 0, s, 3));
        all.put("4 c one", (x, s) -> x.c(s, 0));
        all.put("4 c two", (x, s) -> x.c(0, s));
        all.put("4 c both", (x, s) -> x.c(s, s));
        all.put("7 type", Bruhatry::type);
        all.put("19 root simple", (x, s) -> x.root(0, s, 0));
        all.put("19 root mirror", (x, s) -> x.root(0, 0, s));
        all.put("35 step", Bruhatry::step);
        return all;
    }

    private static Bruhatry some(int mirrors) {
        return Shops.busy(Shops.exchanges(mirrors), new int[] {0});
    }

    private static void mirrors() {
        for (int n = 1; n <= 5; n++) {
            int size = n;
            ofMirror().forEach((name, call) -> {
                for (int s = 0; s < size; s++) {
                    if (size > 1 || !name.startsWith("3")) {
                        Object got = answer(some(size), call, s);
                        Check.due(name + " " + s + " of " + size + " answers " + got, got instanceof String, false);
                    }
                }
                for (int wrong : new int[] {size, size + 1, 5, 6, 1 << 16, Integer.MAX_VALUE, Integer.MIN_VALUE}) {
                    Twin.refused(name + " " + wrong + " of " + size, () -> some(size), INDEX, x -> call.of(x, wrong));
                }
                int below = name.startsWith("35") ? -1 - size : -1;
                Twin.refused(name + " " + below, () -> some(size), INDEX, x -> call.of(x, below));
                Twin.refused(name + " " + (below - 1), () -> some(size), INDEX, x -> call.of(x, below - 1));
            });
            for (int s = 0; s < size; s++) {
                Check.due("35 the inverse of mirror " + s + " of " + size, some(size).step(-1 - s), 4);
            }
        }
        Check.due("7 type the last mirror", some(5).type(4), 2);
        Check.due("35 step the last mirror", some(5).step(4), 4);
        for (int n = 1; n < 5; n++) {
            Bruhatry x = new Bruhatry();
            x.begin(5);
            x.begin(n);
            int gone = n;
            Check.due("2 mirrors that are gone", Twin.answer(x, y -> y.type(gone)), INDEX.getSimpleName());
            Check.due("2 mirrors that are there", x.type(gone - 1), 1);
        }
    }

    private static Object answer(Bruhatry x, ByNumber call, int number) {
        return Twin.answer(x, y -> call.of(y, number));
    }

    private static Bruhatry typedFull() {
        Bruhatry x = Check.typed(Check.shop(2), Shops.turns(30, 0));
        for (int i = 0; i < 16; i++) {
            x.step(i % 2);
        }
        return x;
    }

    private static void mirrorsAheadOfAll() {
        Twin.refused("7 no mirror ahead of full", NumberTest::typedFull, INDEX, x -> x.type(2));
        Twin.refused("7 no mirror ahead of full", NumberTest::typedFull, INDEX, x -> x.type(-1));
        Twin.refused("35 no mirror ahead of full", NumberTest::typedFull, INDEX, x -> x.step(2));
        Twin.refused("35 no mirror ahead of full", NumberTest::typedFull, INDEX, x -> x.step(-3));
        for (int bond : new int[] {3, 1, 99, -1}) {
            Twin.refused("3 no mirror ahead of no bond", NumberTest::three, INDEX, x -> x.bond(3, 0, bond));
            Twin.refused("3 no mirror ahead of no bond", NumberTest::three, INDEX, x -> x.bond(0, 3, bond));
            Twin.refused("3 no mirror ahead of the same", NumberTest::three, INDEX, x -> x.bond(3, 3, bond));
            Twin.refused("3 no mirror ahead of the same", NumberTest::three, INDEX, x -> x.bond(-1, -1, bond));
        }
        Twin.refused("3 no mirror, where there is just one", Bruhatry::new, INDEX, x -> x.bond(0, 1, 3));
        Twin.refused("3 no mirror, where there is just one", Bruhatry::new, INDEX, x -> x.bond(1, 0, 3));
        Twin.refused("19 no mirror", NumberTest::three, INDEX, x -> x.root(0, 3, 3));
        Twin.refused("19 no element and no mirror", NumberTest::three, INDEX, x -> x.root(3, 3, 3));
    }
}
