import java.util.NoSuchElementException;

/** Each promise at its bounds: the last value that is allowed, the first that is not, and which exception comes first. */
public final class BoundaryTest {
    private static final Class<IllegalArgumentException> ARGUMENT = IllegalArgumentException.class;
    private static final Class<IllegalStateException> STATE = IllegalStateException.class;
    private static final Class<UnsupportedOperationException> UNSUPPORTED = UnsupportedOperationException.class;
    private static final Class<NoSuchElementException> MISSING = NoSuchElementException.class;
    private static final Class<ArithmeticException> ARITHMETIC = ArithmeticException.class;
    private static final char[] KINDS = {'l', 'r', 's'};
    private static final int[] FAR_BELOW = {-1, -2, Integer.MIN_VALUE};

    public static void main(String[] args) {
        promise01();
        promise02();
        promise03();
        promise03wrong();
        promise04();
        promise06();
        promise07and08();
        promise12();
        promise17();
        promise20();
        kinds();
        promises23and24();
        promise25();
        promises26and27();
        neitherBelow();
        promise28();
        promise31();
        promises33and34();
        promise35();
        promise39();
        promises41and42();
        promise44();
        promise45();
        promise46();
        promise47();
        promise47wrong();
        promise49();
        promise50();
        promise51();
        Check.end("BoundaryTest");
    }

    private static void promise01() {
        Check.due("1 one mirror", new Bruhatry().mirrors(), 1);
        Check.due("1 no element", new Bruhatry().elements(), 0);
        Check.due("1 the word is empty", new Bruhatry().erase(), 0);
        Check.due("1 the word is empty", new Bruhatry().type(0), 1);
        Check.due("1 no step", new Bruhatry().step(-1), 1);
        Check.due("1 two elements", new Bruhatry().order(), 2);
        Check.due("1 of itself", new Bruhatry().c(0, 0), 2);
        Bruhatry x = new Bruhatry();
        Check.due("1 first element", x.element(), 0);
        Check.due("1 it is 1", x.length(0), 0);
        Check.due("1 first braid", x.braid(), 0);
        Check.due("1 no power", x.powerOf(0), 0);
        Check.due("1 no factor", x.factors(0), 0);
        Check.due("1 as begun", Twin.all(new Bruhatry()), Twin.all(Check.shop(1)));
    }

    private static Bruhatry muchDone() {
        Bruhatry x = Shops.busy(Shops.greatest(), new int[] {3, 2}, new int[] {1});
        x.braid();
        x.step(3);
        return x;
    }

    private static void promise02() {
        for (int n = 1; n <= 5; n++) {
            int size = n;
            Twin.leaves("2 begin " + n, BoundaryTest::muchDone, 2, x -> x.begin(size), () -> Check.shop(size));
            Check.due("2 mirrors " + n, Check.shop(n).mirrors(), n);
            Check.due("2 all bonds are 2", Check.shop(n).order(), 1 << n);
        }
        for (int wrong : new int[] {0, 6, -1, -5, 7, 256 + 1, 1 << 16 | 3, Integer.MIN_VALUE, Integer.MAX_VALUE}) {
            Twin.refused("2 begin " + wrong, BoundaryTest::muchDone, ARGUMENT, x -> x.begin(wrong));
            Twin.refused("2 begin " + wrong + " when new", Bruhatry::new, ARGUMENT, x -> x.begin(wrong));
        }
        Check.due("2 there were none", new Bruhatry().begin(5), 0);
        Check.due("2 there were 24", Shops.filled(Shops.endless(), 24).begin(2), 24);
        Check.due("2 there were 23", Shops.filled(Shops.endless(), 23).begin(2), 23);
        Bruhatry x = muchDone();
        x.begin(4);
        Check.due("2 there are none then", x.begin(4), 0);
        Check.due("2 word is gone", muchDone().begin(4) + x.erase(), 2);
        Check.due("2 steps are gone", x.step(0), 1);
    }

    private static Bruhatry fiveBusy() {
        Bruhatry x = Shops.busy(Shops.exchanges(5), new int[] {3}, new int[] {4, 2});
        x.braid();
        x.step(-5);
        x.step(2);
        return x;
    }

    private static void promise03() {
        int[] bonds = {2, 3, 4, 6, 0};
        for (int one = 0; one < 5; one++) {
            for (int two = 0; two < 5; two++) {
                Bruhatry x = Check.shop(5);
                for (int i = 0; one != two && i <= 5; i++) {
                    String what = "3 bond of " + one + " and " + two;
                    Check.due(what, i % 2 == 0 ? x.bond(one, two, bonds[i % 5]) : x.bond(two, one, bonds[i % 5]),
                            i == 0 ? 2 : bonds[i - 1]);
                }
                Check.due("3 then all are 2", x.order(), 32);
            }
        }
        Bruhatry x = fiveBusy();
        Check.due("3 as it was", x.bond(1, 0, 3), 3);
        Check.due("3 elements are gone", x.elements(), 0);
        Check.due("3 no braid", Twin.answer(x, y -> y.powerOf(0)), "IndexOutOfBoundsException");
        Check.due("3 the first element anew", x.element(), 0);
        Check.due("3 the word stays", Check.form(x, 0), Check.word(0));
        Check.due("3 the steps stay", x.braid(), 0);
        Check.due("3 the steps stay", x.areBraids(0, Check.addBraid(x, -5, 2)), true);
        Check.due("3 the word stays", x.erase(), 1);
        Bruhatry y = fiveBusy();
        y.bond(0, 1, 0);
        Check.due("3 elements are gone", y.elements(), 0);
        Check.due("3 word and steps stay", y.type(0) + y.step(0), 2 + 3);
        Check.due("3 a longer word", y.element() + y.length(0), 0);
    }

    private static void promise03wrong() {
        for (int s = 0; s < 5; s++) {
            int mirror = s;
            for (int bond : new int[] {2, 3, 4, 6, 0, 1, 99}) {
                Twin.refused("3 both the same", BoundaryTest::fiveBusy, ARGUMENT, x -> x.bond(mirror, mirror, bond));
            }
        }
        Twin.refused("3 both the same, one mirror", Bruhatry::new, ARGUMENT, x -> x.bond(0, 0, 2));
        int[] wrongs = {1, 5, 7, 8, 9, 10, 12, -1, -2, -3, -4, -6, 256, 258, (1 << 16) + 3, Integer.MIN_VALUE,
            Integer.MIN_VALUE + 2, Integer.MAX_VALUE};
        for (int wrong : wrongs) {
            Twin.refused("3 no bond " + wrong, BoundaryTest::fiveBusy, ARGUMENT, x -> x.bond(0, 1, wrong));
            Twin.refused("3 no bond " + wrong, BoundaryTest::fiveBusy, ARGUMENT, x -> x.bond(4, 3, wrong));
        }
    }

    private static void promise04() {
        int[] bonds = {2, 3, 4, 6, 0};
        int[] up = {0, -1, -2, -3, -2};
        int[] down = {0, -1, -1, -1, -2};
        for (int s = 0; s < 5; s++) {
            for (int t = s + 1; t < 5; t++) {
                for (int i = 0; i < 5; i++) {
                    Bruhatry x = Check.shop(5, i % 2 == 0 ? s : t, i % 2 == 0 ? t : s, bonds[i]);
                    Check.due("4 lesser first, bond " + bonds[i], x.c(s, t), up[i]);
                    Check.due("4 greater first, bond " + bonds[i], x.c(t, s), down[i]);
                    Check.due("4 itself", x.c(s, s) * 10 + x.c(t, t), 22);
                    Check.due("4 two others", s == 0 ? x.c(t == 1 ? 2 : 1, t == 4 ? 3 : 4) : x.c(0, t), 0);
                    x.bond(s, t, 2);
                    Check.due("4 as it was", x.c(s, t) - x.c(t, s), 0);
                }
            }
        }
        Twin.told("4 changes nothing", BoundaryTest::fiveBusy, -1, x -> x.c(0, 1));
    }

    private static void promise06() {
        int[] wants = {1, 4, 9, 16, 25, 36, 48};
        for (int k = 0; k <= 6; k++) {
            int size = k;
            Twin.told("6 growth of " + k, BoundaryTest::muchDone, wants[k], x -> x.growth(size));
            Check.due("6 growth of one mirror", new Bruhatry().growth(k), k < 2 ? 1 : 0);
            Check.due("6 growth without end", Shops.endless().growth(k), k == 0 ? 1 : 2);
        }
        for (int wrong : new int[] {-1, 7, 8, -7, 256, Integer.MIN_VALUE, Integer.MAX_VALUE}) {
            Twin.refused("6 growth of " + wrong, BoundaryTest::muchDone, ARGUMENT, x -> x.growth(wrong));
        }
    }

    private static Bruhatry typed(int size) {
        return Check.typed(Shops.endless(), Shops.turns(size, 1));
    }

    private static void promise07and08() {
        for (int size : new int[] {0, 1, 28, 29}) {
            Twin.leaves("7 type number " + (size + 1), () -> typed(size), size + 1, x -> x.type((size + 1) % 2),
                    () -> typed(size + 1));
        }
        Twin.refused("7 type number 31", () -> typed(30), STATE, x -> x.type(0));
        Twin.refused("7 type number 31", () -> typed(30), STATE, x -> x.type(1));
        for (int size : new int[] {0, 1, 29, 30}) {
            Twin.leaves("8 erase " + size, () -> typed(size), size, Bruhatry::erase, Shops::endless);
        }
        Bruhatry x = typed(30);
        x.erase();
        Check.due("7 there is room again", x.type(1), 1);
        Check.due("7 the element is not kept in the way", x.element() + x.type(0), 2);
        Twin.leaves("8 elements stay", () -> Shops.busy(Shops.endless(), new int[] {1}), 1, Bruhatry::erase,
                () -> withoutWord(Shops.busy(Shops.endless(), new int[] {1})));
    }

    private static Bruhatry withoutWord(Bruhatry x) {
        x.erase();
        return x;
    }

    private static void promise12() {
        for (int n = 1; n <= 5; n++) {
            int size = n;
            Twin.Recipe recipe = () -> Shops.busy(Shops.exchanges(size), new int[] {0});
            Bruhatry x = recipe.make();
            Check.due("12 the greatest set", Check.form(x, x.part(0, (1 << n) - 1, true)), Check.word(0));
            Check.due("12 the greatest set", Check.form(x, x.part(0, (1 << n) - 1, false)), Check.word());
            Check.due("12 no mirrors", Check.form(x, x.part(0, 0, true)), Check.word());
            Check.due("12 no mirrors", Check.form(x, x.part(0, 0, false)), Check.word(0));
            Check.due("12 one mirror", Check.form(x, x.part(0, 1, true)), Check.word(0));
            for (int wrong : new int[] {1 << n, 1 << n | 1, 64, 1 << 30, -1, Integer.MIN_VALUE, Integer.MAX_VALUE}) {
                Twin.refused("12 no set " + wrong, recipe, ARGUMENT, y -> y.part(0, wrong, true));
                Twin.refused("12 no set " + wrong, recipe, ARGUMENT, y -> y.part(0, wrong, false));
                Twin.refused("12 no set ahead of full", () -> Shops.filled(recipe.make(), 24), ARGUMENT,
                        y -> y.part(0, wrong, true));
            }
        }
        Bruhatry x = Shops.busy(Shops.exchanges(2), new int[] {}, new int[] {0, 1, 0});
        for (int set = 0; set < 4; set++) {
            Check.due("12 part of 1", x.length(x.part(0, set, true)), 0);
            Check.due("12 rest of 1", x.length(x.part(0, set, false)), 0);
            Check.due("12 part of the longest", x.length(x.part(1, set, true)), new int[] {0, 1, 1, 3}[set]);
            Check.due("12 rest of the longest", x.length(x.part(1, set, false)), new int[] {3, 2, 2, 0}[set]);
        }
    }

    private static void promise17() {
        Twin.Recipe recipe = () -> Shops.busy(Shops.endless(), Shops.turns(24, 1), new int[] {}, new int[] {1});
        Twin.told("17 first", recipe, 1, x -> x.letter(0, 0));
        Twin.told("17 last", recipe, 0, x -> x.letter(0, 23));
        Twin.told("17 the only one", recipe, 1, x -> x.letter(2, 0));
        for (int wrong : new int[] {24, 25, 30, 31, -1, Integer.MIN_VALUE, Integer.MAX_VALUE}) {
            Twin.refused("17 index " + wrong, recipe, MISSING, x -> x.letter(0, wrong));
        }
        for (int wrong : new int[] {0, 1, -1}) {
            Twin.refused("17 no mirror in 1", recipe, MISSING, x -> x.letter(1, wrong));
        }
        Twin.refused("17 just one", recipe, MISSING, x -> x.letter(2, 1));
    }

    private static Bruhatry lengths(int... sizes) {
        Bruhatry x = Shops.endless();
        for (int size : sizes) {
            Check.add(x, Shops.turns(size, 1));
        }
        Check.typed(x, 0);
        x.step(1);
        return x;
    }

    private static void promise20() {
        for (int size : new int[] {0, 1, 11, 12}) {
            Twin.told("20 length " + size, () -> lengths(size), 1, x -> x.words(0));
        }
        for (int size : new int[] {13, 14, 24}) {
            Twin.refused("20 length " + size, () -> lengths(size), UNSUPPORTED, x -> x.words(0));
        }
        Twin.Recipe greatest = () -> Shops.busy(Check.line(3, 3, 2, 6), new int[] {0, 1, 2, 0, 1, 0, 3, 4, 3, 4, 3, 4});
        Twin.told("20 length 12, two groups", greatest, 29568, x -> x.words(0));
        Twin.refused("20 length 13 where it is finite", () -> Shops.busy(Shops.exchanges(5),
                new int[] {0, 1, 2, 3, 4, 0, 1, 2, 3, 0, 1, 2, 0}), UNSUPPORTED, x -> x.words(0));
        Twin.refused("20 all 15", BoundaryTest::longest15, UNSUPPORTED, x -> x.words(0));
    }

    private static Bruhatry longest15() {
        Bruhatry x = Shops.exchanges(5);
        x.longest();
        return x;
    }

    /** All signs that a char can be. */
    private static void kinds() {
        for (int sign = 0; sign < 1 << 16; sign++) {
            char kind = (char) sign;
            boolean isOrder = "lrs".indexOf(kind) >= 0;
            if (sign > 300 && !isOrder && sign % 97 != 0) {
                continue;
            }
            Bruhatry x = lengths(11, 0);
            Check.due("22 kind " + sign, Twin.answer(x, y -> y.isBelow(1, 1, kind)),
                    isOrder ? true : kind == 'm' ? UNSUPPORTED.getSimpleName() : ARGUMENT.getSimpleName());
            Check.due("23 kind " + sign, Twin.answer(x, y -> y.between(1, 1, kind)),
                    isOrder ? 1 : ARGUMENT.getSimpleName());
            Check.due("24 kind " + sign, Twin.answer(x, y -> y.moebius(1, 1, kind)),
                    isOrder ? 1L : ARGUMENT.getSimpleName());
            Check.due("23 kind ahead of length", Twin.answer(x, y -> y.between(1, 0, kind)),
                    isOrder ? UNSUPPORTED.getSimpleName() : ARGUMENT.getSimpleName());
            Check.due("24 kind ahead of length", Twin.answer(x, y -> y.moebius(1, 0, kind)),
                    isOrder ? UNSUPPORTED.getSimpleName() : ARGUMENT.getSimpleName());
        }
        for (char kind : "mxLRSM \0\1".toCharArray()) {
            Twin.refused("23 no order " + kind, () -> lengths(1), ARGUMENT, x -> x.between(0, 0, kind));
            Twin.refused("24 no order " + kind, () -> lengths(1), ARGUMENT, x -> x.moebius(0, 0, kind));
            if (kind != 'm') {
                Twin.refused("22 no order " + kind, () -> lengths(1), ARGUMENT, x -> x.isBelow(0, 0, kind));
            }
        }
        Twin.refused("22 m where it is not finite", () -> lengths(1), UNSUPPORTED, x -> x.isBelow(0, 0, 'm'));
        Twin.told("22 m where it is finite", () -> Shops.busy(Shops.greatest(), new int[] {0}), true,
                x -> x.isBelow(0, 0, 'm'));
    }

    private static void promises23and24() {
        for (char kind : KINDS) {
            for (int size : new int[] {0, 1, 9, 10}) {
                int all = size == 0 ? 1 : kind == 's' ? 2 * size : size + 1;
                long number = size == 0 ? 1 : size == 1 ? -1 : kind != 's' ? 0 : size % 2 == 0 ? 1 : -1;
                Twin.told("23 " + kind + " length " + size, () -> lengths(0, size), all, x -> x.between(0, 1, kind));
                Twin.told("24 " + kind + " length " + size, () -> lengths(0, size), number, x -> x.moebius(0, 1, kind));
                Twin.told("23 " + kind + " itself", () -> lengths(0, size), 1, x -> x.between(1, 1, kind));
                Twin.told("24 " + kind + " itself", () -> lengths(0, size), 1, x -> x.moebius(1, 1, kind));
            }
            for (int size : new int[] {11, 12, 24}) {
                for (int low : new int[] {0, 1}) {
                    Twin.refused("23 " + kind + " length " + size, () -> lengths(0, size), UNSUPPORTED,
                            x -> x.between(low, 1, kind));
                    Twin.refused("24 " + kind + " length " + size, () -> lengths(0, size), UNSUPPORTED,
                            x -> x.moebius(low, 1, kind));
                }
                Twin.told("23 " + kind + " the first one may be longer", () -> lengths(size, 10), 0,
                        x -> x.between(0, 1, kind));
                Twin.told("24 " + kind + " the first one may be longer", () -> lengths(size, 10), 0,
                        x -> x.moebius(0, 1, kind));
            }
            Twin.refused("23 too long, and not below", () -> Shops.busy(lengths(11), new int[] {0, 1}), UNSUPPORTED,
                    x -> x.between(1, 0, kind));
            Twin.refused("23 too long where it is finite", BoundaryTest::longest15, UNSUPPORTED,
                    x -> x.between(0, 0, kind));
            Twin.refused("24 too long where it is finite", BoundaryTest::longest15, UNSUPPORTED,
                    x -> x.moebius(0, 0, kind));
            Twin.told("23 all of length 10", BoundaryTest::longest10, 120, x -> x.between(1, 0, kind));
            Twin.told("24 all of length 10", BoundaryTest::longest10, 1, x -> x.moebius(1, 0, kind));
            Twin.told("23 turned round", BoundaryTest::longest10, 0, x -> x.between(0, 1, kind));
            Twin.told("24 turned round", BoundaryTest::longest10, 0, x -> x.moebius(0, 1, kind));
        }
    }

    private static Bruhatry longest10() {
        Bruhatry x = Shops.exchanges(4);
        x.longest();
        x.element();
        return x;
    }

    private static void promise25() {
        Twin.Recipe recipe = () -> lengths(0, 8, 9);
        Twin.told("25 power 8", recipe, 1, x -> x.r(0, 1, 8));
        Twin.told("25 power 0", recipe, 1, x -> x.r(0, 1, 0));
        Twin.told("25 power 1", recipe, -2, x -> x.r(0, 1, 1));
        Twin.told("25 power 7", recipe, -2, x -> x.r(0, 1, 7));
        for (int power : new int[] {9, 10, 16, 31, 32, 64, 256, 1 << 16, 1 << 30, Integer.MAX_VALUE}) {
            Twin.told("25 power " + power, recipe, 0, x -> x.r(0, 1, power));
            Twin.told("26 power " + power, recipe, 0, x -> x.p(0, 1, power));
            Twin.told("28 power " + power, recipe, 0, x -> x.algebra(1, 1, 1, power));
        }
        Twin.told("25 itself", recipe, 1, x -> x.r(1, 1, 0));
        Twin.told("25 itself", recipe, 0, x -> x.r(1, 1, 1));
        Twin.told("25 length 0", recipe, 1, x -> x.r(0, 0, 0));
        Twin.told("25 the first one may be longer", recipe, 0, x -> x.r(2, 1, 0));
        for (int power : new int[] {0, 8, 9, Integer.MAX_VALUE}) {
            Twin.refused("25 length 9", recipe, UNSUPPORTED, x -> x.r(0, 2, power));
            Twin.refused("25 length 9, itself", recipe, UNSUPPORTED, x -> x.r(2, 2, power));
        }
        for (int power : FAR_BELOW) {
            Twin.refused("25 power " + power, recipe, ARGUMENT, x -> x.r(0, 1, power));
            Twin.refused("25 power ahead of length", recipe, ARGUMENT, x -> x.r(0, 2, power));
        }
        Twin.refused("25 where it is finite", BoundaryTest::longest10, UNSUPPORTED, x -> x.r(1, 0, 0));
    }

    private static void promises26and27() {
        Twin.Recipe recipe = () -> lengths(0, 8, 9, 7, 1);
        Twin.told("26 power 0", recipe, 1, x -> x.p(0, 1, 0));
        for (int power = 1; power < 9; power++) {
            int now = power;
            Twin.told("26 power " + power, recipe, 0, x -> x.p(0, 1, now));
        }
        Twin.told("26 itself", recipe, 1, x -> x.p(1, 1, 0));
        Twin.told("26 itself", recipe, 0, x -> x.p(1, 1, 1));
        Twin.told("26 length 0", recipe, 1, x -> x.p(0, 0, 0));
        Twin.told("26 the first one may be longer", recipe, 0, x -> x.p(2, 1, 0));
        for (int power : new int[] {0, 4, 9, Integer.MAX_VALUE}) {
            Twin.refused("26 length 9", recipe, UNSUPPORTED, x -> x.p(0, 2, power));
            Twin.refused("26 length 9, itself", recipe, UNSUPPORTED, x -> x.p(2, 2, power));
        }
        for (int power : FAR_BELOW) {
            Twin.refused("26 power " + power, recipe, ARGUMENT, x -> x.p(0, 1, power));
            Twin.refused("26 power ahead of length", recipe, ARGUMENT, x -> x.p(0, 2, power));
        }
        Twin.refused("26 where it is finite", BoundaryTest::longest10, UNSUPPORTED, x -> x.p(1, 0, 0));
        Twin.told("27 a half that is whole, 0", recipe, 1, x -> x.mu(3, 1));
        Twin.told("27 a half that is whole, 3", recipe, 0, x -> x.mu(4, 1));
        Twin.told("27 length 1", recipe, 1, x -> x.mu(0, 4));
        Twin.told("27 a half that is not whole", recipe, 0, x -> x.mu(0, 1));
        Twin.told("27 itself", recipe, 0, x -> x.mu(1, 1));
        Twin.told("27 length 0", recipe, 0, x -> x.mu(0, 0));
        Twin.told("27 one below 0", recipe, 0, x -> x.mu(1, 3));
        Twin.told("27 the first one may be longer", recipe, 0, x -> x.mu(2, 1));
        Twin.refused("27 length 9", recipe, UNSUPPORTED, x -> x.mu(0, 2));
        Twin.refused("27 length 9, a half that is not whole", recipe, UNSUPPORTED, x -> x.mu(3, 2));
        Twin.refused("27 length 9, itself", recipe, UNSUPPORTED, x -> x.mu(2, 2));
        Twin.refused("27 where it is finite", BoundaryTest::longest10, UNSUPPORTED, x -> x.mu(1, 0));
        Twin.told("27 a half that is whole, 1", () -> lengths(5, 8), 0, x -> x.mu(0, 1));
        Twin.told("27 a half that is not whole, and nearly 0", () -> lengths(6, 8), 0, x -> x.mu(0, 1));
        Twin.told("27 the half 1", () -> Shops.busy(Shops.exchanges(3), new int[] {1}, new int[] {1, 0, 2, 1}), 1,
                x -> x.mu(0, 1));
        greatestPowers();
    }

    /** The greatest power of P of length 8 is 3, and the greatest half of mu too. */
    private static void greatestPowers() {
        Twin.Recipe threes = () -> Shops.busy(Check.shop(3, 0, 1, 6, 0, 2, 6, 1, 2, 0), new int[] {},
                new int[] {1, 0, 2, 0, 1, 2, 0, 1});
        int[] wants = {1, 4, 4, 1, 0, 0, 0, 0, 0, 0};
        for (int power = 0; power < 10; power++) {
            int now = power;
            Twin.told("26 power " + power + " where 3 is the greatest", threes, wants[power], x -> x.p(0, 1, now));
        }
        Twin.told("27 the half 3", () -> Shops.busy(Check.shop(3, 0, 1, 4, 0, 2, 6, 1, 2, 4), new int[] {1},
                new int[] {1, 0, 2, 1, 0, 2, 0, 1}), 1, x -> x.mu(0, 1));
    }

    /** Two elements of which neither is below the other one, though one is shorter; and one above both. */
    private static void neitherBelow() {
        Twin.Recipe recipe = () -> Shops.busy(Shops.exchanges(3), new int[] {2}, new int[] {0, 1}, new int[] {0, 1, 2});
        for (int turn = 0; turn < 2; turn++) {
            int low = turn;
            int high = 1 - turn;
            for (char kind : new char[] {'l', 'r', 's', 'm'}) {
                Twin.told("22 neither below " + kind, recipe, false, x -> x.isBelow(low, high, kind));
                Twin.told("22 below one above " + kind, recipe, kind == 's' || kind == 'm' || kind == (low == 0 ? 'l' : 'r'),
                        x -> x.isBelow(low, 2, kind));
                Twin.told("22 itself " + kind, recipe, true, x -> x.isBelow(low, low, kind));
            }
            for (char kind : KINDS) {
                Twin.told("23 neither below " + kind, recipe, 0, x -> x.between(low, high, kind));
                Twin.told("24 neither below " + kind, recipe, 0, x -> x.moebius(low, high, kind));
            }
            for (int power : new int[] {0, 1, 2}) {
                Twin.told("25 neither below", recipe, 0, x -> x.r(low, high, power));
                Twin.told("26 neither below", recipe, 0, x -> x.p(low, high, power));
            }
            Twin.told("27 neither below", recipe, 0, x -> x.mu(low, high));
        }
    }

    private static void promise28() {
        Twin.Recipe recipe = () -> lengths(20, 8, 21, 9, 12, 0);
        Bruhatry x = recipe.make();
        Check.due("28 both at their greatest", x.reverse(1), 6);
        // The last mirror of the first one is 0; the second one in reverse begins with it, so that all goes away.
        Check.due("28 both at their greatest", x.algebra(0, 6, 4, 8), 1);
        Check.due("28 a power less", x.algebra(0, 6, 4, 7), 0);
        Check.due("28 a power more", x.algebra(0, 6, 4, 9), 0);
        for (int power : new int[] {0, 1, 8, 9, Integer.MAX_VALUE}) {
            Twin.refused("28 second one 9", recipe, UNSUPPORTED, y -> y.algebra(5, 3, 3, power));
            Twin.refused("28 second one 24", () -> lengths(24, 0), UNSUPPORTED, y -> y.algebra(1, 0, 0, power));
            Twin.refused("28 first one 21", recipe, UNSUPPORTED, y -> y.algebra(2, 5, 2, power));
            Twin.refused("28 both too long", recipe, UNSUPPORTED, y -> y.algebra(2, 3, 2, power));
            Twin.refused("28 first one 24", () -> lengths(24, 0), UNSUPPORTED, y -> y.algebra(0, 1, 0, power));
        }
        for (int power : FAR_BELOW) {
            Twin.refused("28 power " + power, recipe, ARGUMENT, y -> y.algebra(0, 1, 0, power));
            Twin.refused("28 power ahead of the second one", recipe, ARGUMENT, y -> y.algebra(5, 3, 0, power));
            Twin.refused("28 power ahead of the first one", recipe, ARGUMENT, y -> y.algebra(2, 1, 0, power));
            Twin.refused("28 power ahead of both", recipe, ARGUMENT, y -> y.algebra(2, 3, 0, power));
        }
        Twin.told("28 first one 20 by 1", recipe, 1, y -> y.algebra(0, 5, 0, 0));
        Twin.told("28 1 by second one 8", recipe, 1, y -> y.algebra(5, 1, 1, 0));
        Twin.told("28 1 by 1", recipe, 1, y -> y.algebra(5, 5, 5, 0));
        Twin.told("28 1 by 1", recipe, 0, y -> y.algebra(5, 5, 5, 1));
        Twin.told("28 of what is not there, far and long", recipe, 0, y -> y.algebra(5, 5, 2, 0));
        Twin.told("28 of what is long", () -> lengths(24, 16, 8), 1, y -> y.algebra(1, 2, 0, 0));
    }

    private static void promise31() {
        Twin.Recipe recipe = BoundaryTest::muchDone;
        int[] wants = {1, 24, 190, 552, 385, 0};
        for (int d = 0; d <= 5; d++) {
            int far = d;
            Twin.told("31 distance " + d, recipe, wants[d], x -> x.ofDistance(far));
            Check.due("31 distance " + d + " of one mirror", new Bruhatry().ofDistance(d), d < 2 ? 1 : 0);
        }
        Check.due("31 distance 5", Check.shop(5).ofDistance(5), 1);
        for (int wrong : new int[] {-1, 6, 7, -5, 256, Integer.MIN_VALUE, Integer.MAX_VALUE}) {
            Twin.refused("31 distance " + wrong, recipe, ARGUMENT, x -> x.ofDistance(wrong));
            Twin.refused("31 range ahead of finite", Shops::endless, ARGUMENT, x -> x.ofDistance(wrong));
        }
        for (int d = 0; d <= 5; d++) {
            int far = d;
            Twin.refused("31 not finite", Shops::endless, UNSUPPORTED, x -> x.ofDistance(far));
        }
    }

    private static void promises33and34() {
        Twin.told("33 one mirror, one chain", Bruhatry::new, 1, Bruhatry::chains);
        Twin.told("34 one mirror, one part", Bruhatry::new, 1, Bruhatry::chainParts);
        Twin.told("34 two mirrors, moved round to itself", () -> Check.line(6), 1, Bruhatry::chainParts);
        Twin.told("33 most chains", () -> Check.line(3, 4, 2, 6), 1620, Bruhatry::chains);
        Twin.told("34 most chains", () -> Check.line(3, 4, 2, 6), 1, Bruhatry::chainParts);
        Twin.told("33 greatest group", BoundaryTest::muchDone, 432, Bruhatry::chains);
        Twin.told("34 greatest group", BoundaryTest::muchDone, 1, Bruhatry::chainParts);
    }

    private static Bruhatry steps(int size) {
        Bruhatry x = Shops.busy(Shops.exchanges(2), new int[] {1});
        x.braid();
        for (int i = 0; i < size; i++) {
            x.step(i % 3 == 0 ? -2 : i % 2);
        }
        return x;
    }

    private static void promise35() {
        for (int size : new int[] {0, 1, 14, 15}) {
            Twin.leaves("35 step number " + (size + 1), () -> steps(size), size + 1,
                    x -> x.step(size % 3 == 0 ? -2 : size % 2), () -> steps(size + 1));
        }
        for (int step : new int[] {0, 1, -1, -2}) {
            Twin.refused("35 step number 17", () -> steps(16), STATE, x -> x.step(step));
        }
        Bruhatry x = steps(16);
        x.braid();
        Check.due("35 there is room again", x.step(1), 1);
        Check.due("36 told and one more", x.braid(), 2);
        Check.due("36 just that one", x.areBraids(2, Check.addBraid(x, 1)), true);
        Bruhatry y = steps(16);
        y.bond(0, 1, 0);
        Check.due("35 steps where it is not finite", Twin.answer(y, z -> z.step(0)), STATE.getSimpleName());
        Bruhatry z = Shops.endless();
        Check.due("35 steps where it is not finite", z.step(-2), 1);
    }

    private static Bruhatry factored() {
        return Shops.braided(steps(0), 0);
    }

    private static void promise39() {
        Twin.Recipe recipe = () -> {
            Bruhatry x = factored();
            for (int i = 0; i < 16; i++) {
                x.step(0);
            }
            x.braid();
            x.braid();
            return x;
        };
        Check.due("38 sixteen", recipe.make().factors(1), 16);
        Check.due("38 none", recipe.make().factors(2), 0);
        for (int index : new int[] {0, 15}) {
            Bruhatry x = recipe.make();
            Check.due("39 index " + index, x.factor(1, index), 1);
            Check.due("39 index " + index, Check.form(x, 1), Check.word(0));
        }
        Twin.Recipe full = () -> Shops.filled(recipe.make(), 24);
        for (int wrong : new int[] {16, 17, 30, -1, Integer.MIN_VALUE, Integer.MAX_VALUE}) {
            Twin.refused("39 index " + wrong, recipe, MISSING, x -> x.factor(1, wrong));
            Twin.refused("39 index ahead of full", full, MISSING, x -> x.factor(1, wrong));
        }
        for (int wrong : new int[] {0, 1, -1}) {
            Twin.refused("39 no factor at all", recipe, MISSING, x -> x.factor(2, wrong));
            Twin.refused("39 no factor at all ahead of full", full, MISSING, x -> x.factor(2, wrong));
        }
        Twin.refused("39 full", full, STATE, x -> x.factor(1, 15));
    }

    private static Bruhatry told(Bruhatry x, int... steps) {
        Check.addBraid(x, steps);
        x.step(0);
        return x;
    }

    private static void promises41and42() {
        for (int power : new int[] {-2, -1, 0, 1, 2}) {
            int[] steps = new int[6 * Math.abs(power)];
            for (int i = 0; i < steps.length; i++) {
                int mirror = new int[] {0, 1, 0, 2, 1, 0}[i % 6];
                steps[i] = power > 0 ? mirror : -1 - mirror;
            }
            Twin.told("41 nothing to cycle", () -> told(Shops.exchanges(3), steps), power, x -> x.cycle(0));
            Twin.told("42 nothing to cycle", () -> told(Shops.exchanges(3), steps), power, x -> x.summit(0));
            Twin.told("38 nothing in its row", () -> told(Shops.exchanges(3), steps), 0, x -> x.factors(0));
            // One element in the row comes back to its place, turned if the power is odd.
            int[] more = Shops.joined(steps, 0);
            Twin.leaves("41 one to cycle", () -> told(Shops.exchanges(3), more), power, x -> x.cycle(0),
                    () -> told(Shops.exchanges(3), Shops.joined(steps, power % 2 == 0 ? 0 : 2)));
            Twin.told("42 one to cycle", () -> told(Shops.exchanges(3), more), power, x -> x.summit(0));
        }
        Twin.leaves("41 two change places", () -> told(Shops.exchanges(3), 1, 1, 0), 0, x -> x.cycle(0),
                () -> told(Shops.exchanges(3), 1, 0, 1));
        Bruhatry x = told(Shops.exchanges(3), 0, 0, 1, 1);
        for (int i = 0; i < 2; i++) {
            Check.due("41 round again", x.cycle(0), 0);
        }
        Twin.told("42 it rises", () -> told(Check.line(3), -1, 1, 1, 0), 0, y -> y.summit(0));
        Twin.told("42 it is greatest at once", () -> told(Check.line(3), 0, 0, 1, 1), 0, y -> y.summit(0));
        sixteen();
    }

    private static void sixteen() {
        for (int sign : new int[] {1, -1}) {
            int[] steps = new int[16];
            java.util.Arrays.fill(steps, sign > 0 ? 0 : -1);
            Bruhatry one = told(new Bruhatry(), steps);
            Check.due("37 sixteen of one mirror", one.powerOf(0), 16 * sign);
            Check.due("38 sixteen of one mirror", one.factors(0), 0);
            Check.due("42 sixteen of one mirror", one.summit(0), 16 * sign);
            for (Bruhatry x : new Bruhatry[] {Shops.exchanges(2), Shops.exchanges(5), Shops.greatest()}) {
                told(x, steps);
                Check.due("37 sixteen", x.powerOf(0), sign > 0 ? 0 : -16);
                Check.due("38 sixteen", x.factors(0), 16);
                Check.due("41 sixteen", x.cycle(0), sign > 0 ? 0 : -16);
                Check.due("38 sixteen then", x.factors(0), 16);
                Check.due("42 sixteen", x.summit(0), sign > 0 ? 0 : -16);
                Check.due("51 sixteen", x.isSound(), true);
            }
        }
    }

    private static void promise44() {
        for (int n = 1; n <= 5; n++) {
            int last = n;
            Twin.Recipe recipe = () -> Shops.busy(Shops.exchanges(last), new int[] {last - 1}, new int[] {});
            Twin.told("44 the last place", recipe, last - 1, x -> x.brings(0, last));
            Twin.told("44 the last but one", recipe, last, x -> x.brings(0, last - 1));
            Twin.told("44 place 0", recipe, last == 1 ? 1 : 0, x -> x.brings(0, 0));
            Twin.told("44 by 1", recipe, last, x -> x.brings(1, last));
            for (int wrong : new int[] {last + 1, last + 2, 6, -1, Integer.MIN_VALUE, Integer.MAX_VALUE}) {
                if (wrong != last) {
                    Twin.refused("44 place " + wrong, recipe, IndexOutOfBoundsException.class,
                            x -> x.brings(0, wrong));
                    Twin.refused("44 place ahead of bonds", () -> Shops.busy(Shops.endless(), new int[] {0}),
                            IndexOutOfBoundsException.class, x -> x.brings(0, Math.abs(wrong) < 3 ? 3 : wrong));
                }
            }
        }
        otherBonds("44 brings", x -> x.brings(0, 0));
        otherBonds("44 brings the last place", x -> x.brings(0, 2));
        otherBonds("45 tower", x -> x.tower(0, 0));
        otherBonds("45 tower, a far row", x -> x.tower(0, Integer.MAX_VALUE));
        otherBonds("46 pipes", x -> x.pipes(0));
        otherBonds("46 pipes of 1", x -> x.pipes(1));
    }

    private static void otherBonds(String what, Twin.Call call) {
        for (int bond : new int[] {2, 4, 6, 0}) {
            Twin.refused(what + ", two mirrors", () -> Shops.busy(Check.line(bond), new int[] {0}, new int[] {}),
                    UNSUPPORTED, call);
            for (int s = 0; s < 4; s++) {
                int low = s;
                Twin.refused(what + ", five mirrors", () -> {
                    Bruhatry x = Shops.exchanges(5);
                    x.bond(low + 1, low, bond);
                    return Shops.busy(x, new int[] {0}, new int[] {});
                }, UNSUPPORTED, call);
            }
        }
        for (int bond : new int[] {3, 4, 6, 0}) {
            for (int far = 2; far < 5; far++) {
                int two = far;
                Twin.refused(what + ", a bond of others", () -> {
                    Bruhatry x = Shops.exchanges(5);
                    x.bond(two - 2, two, bond);
                    return Shops.busy(x, new int[] {0}, new int[] {});
                }, UNSUPPORTED, call);
            }
        }
        Twin.refused(what + ", all bonds 2", () -> Shops.busy(Check.shop(3), new int[] {0}, new int[] {}), UNSUPPORTED,
                call);
        Twin.answered(what + ", bonds as they have to be", () -> Shops.busy(Shops.exchanges(5), new int[] {0},
                new int[] {}), call);
    }

    private static void promise45() {
        for (int n = 1; n <= 5; n++) {
            int last = n;
            Twin.Recipe recipe = () -> {
                Bruhatry x = Shops.exchanges(last);
                x.longest();
                x.element();
                return x;
            };
            for (int row = 0; row <= 8; row++) {
                int now = row;
                Twin.told("45 row " + row + " of the longest", recipe, row <= last ? 1 : 0, x -> x.tower(0, now));
                Twin.told("45 row " + row + " of 1", recipe, row == 0 ? last + 1 : 0, x -> x.tower(1, now));
            }
            Twin.told("45 a far row", recipe, 0, x -> x.tower(0, Integer.MAX_VALUE));
            for (int wrong : FAR_BELOW) {
                Twin.refused("45 row " + wrong, recipe, ARGUMENT, x -> x.tower(0, wrong));
                Twin.refused("45 row ahead of bonds", () -> lengths(3), ARGUMENT, x -> x.tower(0, wrong));
            }
        }
    }

    private static void promise46() {
        Twin.told("46 nothing is written in one way", () -> Shops.busy(Shops.exchanges(5), new int[] {}), 1,
                x -> x.pipes(0));
        for (int s = 0; s < 5; s++) {
            int mirror = s;
            Twin.told("46 one mirror", () -> Shops.busy(Shops.exchanges(5), new int[] {mirror}), mirror + 1,
                    x -> x.pipes(0));
        }
        int[][] words = {{0, 1}, {1, 0}, {1, 2}, {2, 1}, {0, 2}, {0, 1, 0}, {4, 3}, {3, 4}};
        int[] wants = {1, 1, 3, 3, 3, 1, 10, 10};
        for (int i = 0; i < words.length; i++) {
            int[] word = words[i];
            Twin.told("46 rising or not", () -> Shops.busy(Shops.exchanges(5), word), wants[i], x -> x.pipes(0));
        }
        Twin.told("46 length 10", BoundaryTest::longest10, 1, x -> x.pipes(0));
        int[] top10 = {0, 1, 0, 2, 1, 0, 3, 2, 1, 0};
        Twin.told("46 length 10 of five", () -> Shops.busy(Shops.exchanges(5), top10), 1, x -> x.pipes(0));
        Twin.told("46 length 9", () -> Shops.busy(Shops.exchanges(5), java.util.Arrays.copyOf(top10, 9)), 1,
                x -> x.pipes(0));
        Twin.refused("46 length 11", () -> Shops.busy(Shops.exchanges(5), Shops.joined(top10, 4)), UNSUPPORTED,
                x -> x.pipes(0));
        Twin.refused("46 length 12", () -> Shops.busy(Shops.exchanges(5), Shops.joined(top10, 4, 3)), UNSUPPORTED,
                x -> x.pipes(0));
        Twin.refused("46 length 15", BoundaryTest::longest15, UNSUPPORTED, x -> x.pipes(0));
        Twin.refused("46 not finite", () -> lengths(3), UNSUPPORTED, x -> x.pipes(0));
    }

    private static void promise47() {
        Twin.Recipe five = () -> Shops.busy(Shops.exchanges(5), new int[] {0});
        Twin.told("47 as it is", five, true, x -> x.isAlike(1000100101L));
        Twin.told("47 other names", five, true, x -> x.isAlike(1100000101L));
        Twin.told("47 the least, all bonds 2", () -> Check.shop(5), true, x -> x.isAlike(0));
        Twin.told("47 the least", five, false, x -> x.isAlike(0));
        Twin.told("47 the greatest", five, false, x -> x.isAlike(4444444444L));
        Twin.told("47 the greatest, one mirror", Bruhatry::new, true, x -> x.isAlike(4444444444L));
        Twin.told("47 the least, one mirror", Bruhatry::new, true, x -> x.isAlike(0));
        Bruhatry free = Check.shop(5);
        for (int s = 0; s < 5; s++) {
            for (int t = s + 1; t < 5; t++) {
                free.bond(s, t, 0);
            }
        }
        Check.due("47 the greatest, all without end", free.isAlike(4444444444L), true);
        Check.due("47 one is not", free.isAlike(4444444443L), false);
        Check.due("47 one is not", free.isAlike(3444444444L), false);
        // The bond of each pair stands at its digit: 0 1, 0 2, 0 3, 0 4, 1 2, 1 3, 1 4, 2 3, 2 4, 3 4.
        int[] bonds = {2, 3, 4, 6, 0};
        for (int digit = 0; digit < 5; digit++) {
            for (int n = 2; n <= 5; n++) {
                int place = 0;
                for (int s = 0; s < 5; s++) {
                    for (int t = s + 1; t < 5; t++) {
                        long told = digit;
                        for (int i = place; i < 9; i++) {
                            told *= 10;
                        }
                        boolean isThere = t < n;
                        Bruhatry x = Check.shop(n, 0, n - 1, bonds[digit]);
                        Check.due("47 digit at " + place, x.isAlike(told), isThere || digit == 0);
                        Check.due("47 just two", Check.shop(n).isAlike(told), !isThere || digit == 0);
                        place++;
                    }
                }
            }
        }
    }

    private static void promise47wrong() {
        for (long wrong : new long[] {-1, -1000100101L, Long.MIN_VALUE, Integer.MIN_VALUE, 10000000000L, 10000000001L,
            11000100101L, 44444444444L, 1L << 40, Long.MAX_VALUE, 4444444445L, 5000000000L, 9999999999L, 5, 9}) {
            Twin.refused("47 " + wrong, () -> Shops.busy(Shops.exchanges(5), new int[] {0}), ARGUMENT,
                    x -> x.isAlike(wrong));
            Twin.refused("47 " + wrong + ", one mirror", Bruhatry::new, ARGUMENT, x -> x.isAlike(wrong));
        }
        long unit = 1;
        for (int place = 0; place < 10; place++) {
            for (int digit = 5; digit < 10; digit++) {
                long wrong = unit * digit;
                Check.due("47 digit " + digit, Twin.answer(Check.shop(2), x -> x.isAlike(wrong)),
                        ARGUMENT.getSimpleName());
            }
            long right = unit * 4;
            Check.due("47 digit 4", Twin.answer(new Bruhatry(), x -> x.isAlike(right)), true);
            unit *= 10;
        }
        // 10000000000 and 4294967296 together are more than an int can hold: the int left over would be fine.
        Check.due("47 as an int it would be 0", Twin.answer(new Bruhatry(), x -> x.isAlike(1L << 33)),
                ARGUMENT.getSimpleName());
    }

    private static void promise49() {
        Twin.refused("49 just one mirror", Bruhatry::new, ARITHMETIC, Bruhatry::bondShare);
        Twin.refused("49 just one mirror", () -> Shops.busy(Check.shop(1), new int[] {0}), ARITHMETIC,
                Bruhatry::bondShare);
        for (int n = 2; n <= 5; n++) {
            int size = n;
            Twin.told("49 none", () -> Check.shop(size), 0f, Bruhatry::bondShare);
            for (int bond : new int[] {3, 4, 6, 0}) {
                Check.due("49 one", Check.shop(n, n - 1, 0, bond).bondShare(), 1f / (float) (n * (n - 1) / 2));
            }
            Bruhatry x = Check.shop(n);
            for (int s = 0; s < n; s++) {
                for (int t = s + 1; t < n; t++) {
                    x.bond(s, t, 6);
                }
            }
            Check.due("49 all", x.bondShare(), 1f);
            x.bond(0, 1, 2);
            int pairs = n * (n - 1) / 2;
            Check.due("49 all but one", x.bondShare(), (float) (pairs - 1) / (float) pairs);
        }
    }

    private static void promise50() {
        Twin.refused("50 none", Bruhatry::new, ARITHMETIC, Bruhatry::meanLength);
        Twin.refused("50 none, but a word", () -> typed(30), ARITHMETIC, Bruhatry::meanLength);
        Twin.refused("50 none any more", () -> {
            Bruhatry x = lengths(3, 4);
            x.bond(0, 1, 0);
            return x;
        }, ARITHMETIC, Bruhatry::meanLength);
        Twin.refused("50 none any more", () -> {
            Bruhatry x = lengths(3, 4);
            x.begin(2);
            return x;
        }, ARITHMETIC, Bruhatry::meanLength);
        Twin.told("50 one of length 0", () -> lengths(0), 0.0, Bruhatry::meanLength);
        Twin.told("50 one of length 24", () -> lengths(24), 24.0, Bruhatry::meanLength);
        Twin.told("50 some", () -> lengths(24, 0, 1), 25.0 / 3.0, Bruhatry::meanLength);
        Check.due("50 all 24", Shops.filled(lengths(24), 24).meanLength(), 47.0 / 24.0);
    }

    private static void promise51() {
        Twin.told("51 new", Bruhatry::new, true, Bruhatry::isSound);
        Twin.told("51 with nothing", () -> Shops.busy(Shops.greatest()), true, Bruhatry::isSound);
        Check.due("51 full", Shops.filled(Shops.braided(muchDone(), 7), 24).isSound(), true);
        Twin.told("51 of length 24", () -> lengths(24, 0), true, Bruhatry::isSound);
        Bruhatry x = Shops.exchanges(5);
        for (int i = 0; i < 16; i++) {
            x.step(i % 2 == 0 ? -1 - i % 5 : i % 5);
        }
        x.braid();
        Check.due("51 braid of all 16", x.isSound(), true);
    }
}
