import java.util.HashSet;
import java.util.NoSuchElementException;
import java.util.Set;

/** Each promise by calls whose answers are known by hand or from books. */
public final class PromiseTest {
    private static final Class<IndexOutOfBoundsException> INDEX = IndexOutOfBoundsException.class;
    private static final Class<IllegalArgumentException> ARGUMENT = IllegalArgumentException.class;
    private static final Class<IllegalStateException> STATE = IllegalStateException.class;
    private static final Class<UnsupportedOperationException> UNSUPPORTED = UnsupportedOperationException.class;
    private static final Class<NoSuchElementException> MISSING = NoSuchElementException.class;
    private static final Class<ArithmeticException> ARITHMETIC = ArithmeticException.class;

    public static void main(String[] args) {
        promise01to04();
        promise05order();
        promise06growth();
        promise07to09();
        promise10product();
        promise11to13();
        promise14swallow();
        promise15to18();
        promise19root();
        promise20words();
        promise21and22();
        promise23between();
        promise24moebius();
        promise25r();
        promise26and27();
        promise28algebra();
        promise29to32();
        promise33and34();
        promise35and36();
        promise37to42();
        promise43walls();
        promise44brings();
        promise45tower();
        promise46pipes();
        promise47isAlike();
        promise48to50();
        promise51isSound();
        Check.end("PromiseTest");
    }

    /** Fills the workshop up to 24 elements; the word is gone then. */
    private static void full(Bruhatry x) {
        x.erase();
        for (int i = x.elements(); i < 24; i++) {
            x.element();
        }
    }

    private static void promise01to04() {
        Bruhatry x = new Bruhatry();
        Check.due("1 mirrors", x.mirrors(), 1);
        Check.due("1 elements", x.elements(), 0);
        Check.due("1 word", x.erase(), 0);
        Check.due("1 order", x.order(), 2);
        Check.due("1 first step", x.step(0), 1);
        for (int wrong : new int[] {0, 6, -1, Integer.MIN_VALUE, Integer.MAX_VALUE}) {
            Check.thrown("2 begin " + wrong, x, ARGUMENT, () -> x.begin(wrong));
        }
        Check.add(x, 0);
        Check.addBraid(x, 0);
        x.step(0);
        Check.due("2 begin", x.begin(5), 1);
        Check.due("2 mirrors", x.mirrors(), 5);
        Check.due("2 word", x.erase(), 0);
        Check.due("2 steps", x.step(0), 1);
        Check.due("2 elements", x.elements(), 0);
        Check.thrown("2 no braids", x, INDEX, () -> x.powerOf(0));
        x.bond(0, 1, 6);
        x.begin(2);
        Check.due("2 bonds are 2", x.c(0, 1), 0);

        Bruhatry y = Check.shop(3);
        Check.due("3 before", y.bond(0, 2, 3), 2);
        Check.due("3 before", y.bond(2, 0, 0), 3);
        Check.due("3 before", y.bond(0, 2, 2), 0);
        Check.add(y, 0, 1);
        Check.addBraid(y, 0);
        y.step(1);
        Check.due("3 the same", y.bond(0, 2, 2), 2);
        Check.due("3 elements gone", y.elements(), 0);
        Check.thrown("3 braids gone", y, INDEX, () -> y.factors(0));
        Check.due("3 word stays", y.erase(), 2);
        Check.due("3 steps stay", y.step(0), 2);
        Check.thrown("3 no mirror", y, INDEX, () -> y.bond(3, 0, 3));
        Check.thrown("3 no mirror", y, INDEX, () -> y.bond(-1, 0, 3));
        Check.thrown("3 no mirror", y, INDEX, () -> y.bond(0, 3, 99));
        Check.thrown("3 no mirror but the same", y, INDEX, () -> y.bond(3, 3, 3));
        Check.thrown("3 the same", y, ARGUMENT, () -> y.bond(1, 1, 3));
        for (int wrong : new int[] {1, 5, 7, -1, 8}) {
            Check.thrown("3 no bond", y, ARGUMENT, () -> y.bond(0, 1, wrong));
        }

        int[] bonds = {2, 3, 4, 6, 0};
        int[] up = {0, -1, -2, -3, -2};
        int[] down = {0, -1, -1, -1, -2};
        for (int i = 0; i < 5; i++) {
            Bruhatry z = Check.shop(2, 1, 0, bonds[i]);
            Check.due("4 c up", z.c(0, 1), up[i]);
            Check.due("4 c down", z.c(1, 0), down[i]);
            Check.due("4 c same", z.c(1, 1), 2);
        }
        Check.thrown("4 no mirror", y, INDEX, () -> y.c(3, 0));
        Check.thrown("4 no mirror", y, INDEX, () -> y.c(0, -1));
    }

    private static void order(int want, Bruhatry x) {
        Check.due("5 order", x.order(), want);
        Check.due("5 order again", x.order(), want);
    }

    private static void promise05order() {
        order(2, new Bruhatry());
        order(4, Check.line(2));
        order(6, Check.line(3));
        order(8, Check.line(4));
        order(12, Check.line(6));
        order(-1, Check.line(0));
        order(24, Check.line(3, 3));
        order(48, Check.line(3, 4));
        order(48, Check.line(4, 3));
        order(-1, Check.line(3, 6));
        order(-1, Check.line(4, 4));
        order(-1, Check.shop(3, 0, 1, 3, 1, 2, 3, 0, 2, 3));
        order(120, Check.line(3, 3, 3));
        order(384, Check.line(3, 3, 4));
        order(1152, Check.line(3, 4, 3));
        order(192, Check.shop(4, 0, 1, 3, 0, 2, 3, 0, 3, 3));
        order(-1, Check.line(4, 3, 4));
        order(720, Check.line(3, 3, 3, 3));
        order(-1, Check.line(3, 3, 3, 4));
        order(-1, Check.shop(5, 0, 1, 3, 1, 2, 3, 2, 3, 3, 2, 4, 3));
        order(-1, Check.line(3, 4, 3, 2));
        order(768, Check.line(3, 3, 4, 2));
        order(576, Check.line(3, 4, 2, 6));
        order(288, Check.line(6, 2, 6, 2));
        order(32, Check.shop(5));
        order(-1, Check.line(3, 4, 3, 3));
    }

    private static void grows(Bruhatry x, int... wants) {
        for (int i = 0; i < wants.length; i++) {
            Check.due("6 growth of " + i, x.growth(i), wants[i]);
        }
    }

    private static void promise06growth() {
        grows(new Bruhatry(), 1, 1, 0, 0, 0, 0, 0);
        grows(Check.line(3), 1, 2, 2, 1, 0, 0, 0);
        grows(Check.line(6), 1, 2, 2, 2, 2, 2, 1);
        grows(Check.line(0), 1, 2, 2, 2, 2, 2, 2);
        grows(Check.line(3, 3), 1, 3, 5, 6, 5, 3, 1);
        grows(Check.line(3, 3, 3, 3), 1, 5, 14, 29, 49, 71, 90);
        grows(Check.line(3, 3, 3, 4), 1, 5, 14, 30, 54, 86, 125);
        grows(Check.shop(5), 1, 5, 10, 10, 5, 1, 0);
        Bruhatry free = Check.shop(5);
        for (int s = 0; s < 5; s++) {
            for (int t = s + 1; t < 5; t++) {
                free.bond(s, t, 0);
            }
        }
        grows(free, 1, 5, 20, 80, 320, 1280, 5120);
        Check.thrown("6 below", free, ARGUMENT, () -> free.growth(-1));
        Check.thrown("6 above", free, ARGUMENT, () -> free.growth(7));
        Check.thrown("6 far above", free, ARGUMENT, () -> free.growth(Integer.MAX_VALUE));
    }

    private static void promise07to09() {
        Bruhatry x = Check.line(0);
        for (int i = 0; i < 30; i++) {
            Check.due("7 type", x.type(i % 2), i + 1);
        }
        Check.thrown("7 no mirror", x, INDEX, () -> x.type(2));
        Check.thrown("7 no mirror", x, INDEX, () -> x.type(-1));
        Check.thrown("7 full", x, STATE, () -> x.type(0));
        Check.thrown("9 length 30", x, UNSUPPORTED, x::element);
        Check.due("8 erase", x.erase(), 30);
        Check.due("8 erase again", x.erase(), 0);
        int[] long24 = new int[24];
        int[] long25 = new int[25];
        for (int i = 0; i < 25; i++) {
            long24[Math.min(i, 23)] = Math.min(i, 23) % 2;
            long25[i] = i % 2;
        }
        Check.typed(x, long25);
        Check.thrown("9 length 25", x, UNSUPPORTED, x::element);
        Check.due("9 length 24", Check.add(x, long24), 0);
        Check.due("9 word stays", x.type(0), 25);
        Check.due("9 length", x.length(0), 24);
        full(x);
        Check.thrown("9 refused before it is full", Check.typed(x, long25), UNSUPPORTED, x::element);
        Check.typed(x, 0);
        Check.thrown("9 full", x, STATE, x::element);

        Bruhatry y = Check.line(3, 3);
        Check.due("9 nothing", Check.form(y, Check.add(y)), Check.word());
        Check.due("9 twice", Check.form(y, Check.add(y, 1, 1)), Check.word());
        Check.due("9 first word", Check.form(y, Check.add(y, 1, 0, 1)), Check.word(0, 1, 0));
        Check.due("9 first word", Check.form(y, Check.add(y, 2, 0)), Check.word(0, 2));
        Check.due("9 first word", Check.form(y, Check.add(y, 2, 1, 2, 0, 1, 2)), Check.word(0, 1, 0, 2, 1, 0));
        Check.due("9 shorter", Check.form(y, Check.add(y, 2, 1, 0, 0, 1, 2, 2)), Check.word(2));
        Bruhatry z = Check.line(3, 4, 3);
        int[] top = new int[24];
        for (int i = 0; i < 24; i++) {
            top[i] = new int[] {0, 2, 1, 3}[i % 4];
        }
        Check.due("9 the longest one of 1152", z.length(Check.add(z, top)), 24);
    }

    private static void promise10product() {
        Bruhatry x = Check.line(3, 3);
        int a = Check.add(x, 0, 1);
        int b = Check.add(x, 1, 2);
        Check.due("10 product", x.product(a, b), 2);
        Check.due("10 form", Check.form(x, 2), Check.word(0, 2));
        Check.due("10 form", Check.form(x, x.product(b, a)), Check.word(1, 0, 2, 1));
        Check.due("10 same", Check.form(x, x.product(a, a)), Check.word(1, 0));
        Check.thrown("10 none", x, INDEX, () -> x.product(5, 0));
        Check.thrown("10 none", x, INDEX, () -> x.product(0, 5));
        Check.thrown("10 none", x, INDEX, () -> x.product(-1, 0));
        full(x);
        Check.thrown("10 full", x, STATE, () -> x.product(0, 0));

        Bruhatry y = Check.line(0);
        int[] up = new int[16];
        int[] down = new int[24];
        for (int i = 0; i < 24; i++) {
            up[Math.min(i, 15)] = Math.min(i, 15) % 2;
            down[i] = (i + 1) % 2;
        }
        int one = Check.add(y, up);
        int eight = Check.add(y, 0, 1, 0, 1, 0, 1, 0, 1);
        int nine = Check.add(y, 0, 1, 0, 1, 0, 1, 0, 1, 0);
        int long24 = Check.add(y, down);
        Check.due("10 length 24", y.length(y.product(one, eight)), 24);
        Check.thrown("10 length 25", y, UNSUPPORTED, () -> y.product(one, nine));
        Check.thrown("10 refused on the way", y, UNSUPPORTED, () -> y.product(long24, long24));
        Check.due("10 all away", y.length(y.product(long24, y.reverse(long24))), 0);
        full(y);
        Check.thrown("10 refused before full", y, UNSUPPORTED, () -> y.product(one, nine));
        Check.thrown("10 no element before refused", y, INDEX, () -> y.product(one, 24));
    }

    private static void promise11to13() {
        Bruhatry x = Check.line(3, 3);
        int a = Check.add(x, 0, 1, 2);
        Check.due("11 reverse", Check.form(x, x.reverse(a)), Check.word(2, 1, 0));
        Check.due("11 form", Check.form(x, x.reverse(Check.add(x, 0, 2))), Check.word(0, 2));
        Check.thrown("11 none", x, INDEX, () -> x.reverse(4));
        int w = Check.add(x, 0, 1, 0, 2, 1);
        Check.due("12 part", Check.form(x, x.part(w, 1, true)), Check.word());
        Check.due("12 rest", Check.form(x, x.part(w, 1, false)), Check.form(x, w));
        Check.due("12 part", Check.form(x, x.part(w, 6, true)), Check.word(1, 2, 1));
        Check.due("12 rest", Check.form(x, x.part(w, 6, false)), Check.word(1, 0));
        Check.due("12 all", Check.form(x, x.part(w, 7, true)), Check.form(x, w));
        Check.due("12 nothing", Check.form(x, x.part(w, 0, true)), Check.word());
        Check.thrown("12 none", x, INDEX, () -> x.part(x.elements(), 8, true));
        Check.thrown("12 no set", x, ARGUMENT, () -> x.part(w, 8, true));
        Check.thrown("12 no set", x, ARGUMENT, () -> x.part(w, -1, false));
        Check.due("13 longest", Check.form(x, x.longest()), Check.word(0, 1, 0, 2, 1, 0));
        full(x);
        Check.thrown("11 full", x, STATE, () -> x.reverse(0));
        Check.thrown("12 full", x, STATE, () -> x.part(0, 7, true));
        Check.thrown("12 no set before full", x, ARGUMENT, () -> x.part(0, 8, true));
        Check.thrown("13 full", x, STATE, x::longest);
        Bruhatry f = Check.line(3, 4, 3);
        Check.due("13 longest", f.length(f.longest()), 24);
        Bruhatry y = Check.line(3, 3, 3, 4);
        full(y);
        Check.thrown("13 not finite here, and full", y, UNSUPPORTED, y::longest);
    }

    private static void promise14swallow() {
        Bruhatry x = Check.line(3);
        Check.typed(x, 0, 0, 1, 1, 0, 1, 0);
        Check.due("14 swallow", x.swallow(), 0);
        Check.due("14 form", Check.form(x, 0), Check.word(0, 1, 0));
        Check.due("14 word stays", x.erase(), 7);
        Check.due("14 nothing", Check.form(x, x.swallow()), Check.word());
        full(x);
        Check.thrown("14 full", x, STATE, x::swallow);
        Bruhatry y = Check.line(0);
        int[] letters = new int[30];
        for (int i = 0; i < 30; i++) {
            letters[i] = i < 6 ? 1 : i % 2;
        }
        Check.due("14 length 25", letters[6], 0);
        Check.typed(y, letters);
        Check.thrown("14 length 25", y, UNSUPPORTED, y::swallow);
        letters[6] = 1;
        letters[7] = 1;
        letters[8] = 1;
        letters[9] = 0;
        letters[10] = 0;
        Check.typed(y, letters);
        Check.due("14 shorter", y.length(y.swallow()), 21);
        full(y);
        for (int i = 0; i < 30; i++) {
            letters[i] = i % 2;
        }
        Check.typed(y, letters);
        Check.thrown("14 refused before full", y, UNSUPPORTED, y::swallow);
    }

    private static void promise15to18() {
        Bruhatry x = Check.line(3, 4);
        Check.due("15 none", x.elements(), 0);
        int a = Check.add(x, 0, 2, 1);
        Check.due("15 one", x.elements(), 1);
        Check.due("16 length", x.length(a), 3);
        Check.thrown("16 none", x, INDEX, () -> x.length(1));
        Check.thrown("16 none", x, INDEX, () -> x.length(-1));
        Check.due("17 letter", x.letter(a, 0), 0);
        Check.due("17 letter", x.letter(a, 1), 2);
        Check.due("17 letter", x.letter(a, 2), 1);
        Check.thrown("17 no element", x, INDEX, () -> x.letter(1, 99));
        Check.thrown("17 no letter", x, MISSING, () -> x.letter(0, 3));
        Check.thrown("17 no letter", x, MISSING, () -> x.letter(0, -1));
        Check.due("18 left", x.descents(a, true), 5);
        Check.due("18 right", x.descents(a, false), 2);
        Check.due("18 nothing", x.descents(Check.add(x), true), 0);
        Check.due("18 all", x.descents(x.longest(), false), 7);
        Check.thrown("18 none", x, INDEX, () -> x.descents(3, true));
    }

    private static void promise19root() {
        Bruhatry x = Check.line(4);
        int a = Check.add(x, 0);
        int b = Check.add(x, 1);
        int ba = Check.add(x, 1, 0);
        Check.due("19 itself", x.root(a, 0, 0), -1);
        Check.due("19 other", x.root(a, 1, 0), 1);
        Check.due("19 other", x.root(a, 1, 1), 1);
        Check.due("19 other", x.root(b, 0, 1), 2);
        Check.due("19 other", x.root(b, 0, 0), 1);
        Check.due("19 last first", x.root(ba, 1, 1), 1);
        Check.due("19 last first", x.root(ba, 1, 0), 1);
        Check.due("19 last first", x.root(ba, 0, 1), -2);
        Check.thrown("19 no element", x, INDEX, () -> x.root(3, 0, 0));
        Check.thrown("19 no mirror", x, INDEX, () -> x.root(0, 2, 0));
        Check.thrown("19 no mirror", x, INDEX, () -> x.root(0, 0, -1));
        Bruhatry y = Check.line(6);
        Check.due("19 bond 6", y.root(Check.add(y, 1), 0, 1), 3);
        Check.due("19 bond 6", y.root(Check.add(y, 0), 1, 0), 1);
    }

    private static void promise20words() {
        Bruhatry x = Check.line(3, 3, 3);
        Check.due("20 nothing", x.words(Check.add(x)), 1);
        Check.due("20 longest", x.words(x.longest()), 768);
        Check.thrown("20 none", x, INDEX, () -> x.words(2));
        Bruhatry d = Check.shop(4, 0, 1, 3, 0, 2, 3, 0, 3, 3);
        Check.due("20 of length 12", d.words(d.longest()), 2316);
        Bruhatry e = Check.line(3, 3, 2, 6);
        Check.due("20 of length 12, most", e.words(e.longest()), 29568);
        Bruhatry b = Check.line(3, 4);
        Check.due("20 three mirrors", b.words(b.longest()), 42);
        Bruhatry y = Check.line(0);
        Check.due("20 one word", y.words(Check.add(y, 0, 1, 0, 1, 0, 1, 0, 1, 0, 1, 0, 1)), 1);
        int far = Check.add(y, 0, 1, 0, 1, 0, 1, 0, 1, 0, 1, 0, 1, 0);
        Check.thrown("20 length 13", y, UNSUPPORTED, () -> y.words(far));
    }

    private static void promise21and22() {
        Bruhatry x = Check.line(3, 3);
        int a = Check.add(x, 1, 0, 1);
        int b = Check.add(x, 0, 1, 0);
        int c = Check.add(x, 0, 1);
        int d = Check.add(x, 2);
        Check.due("21 same", x.areSame(a, b), true);
        Check.due("21 itself", x.areSame(a, a), true);
        Check.due("21 other", x.areSame(a, c), false);
        Check.due("21 other", x.areSame(d, c), false);
        Check.thrown("21 none", x, INDEX, () -> x.areSame(4, 0));
        Check.thrown("21 none", x, INDEX, () -> x.areSame(0, -1));
        int up = Check.add(x, 0, 1, 2);
        Check.due("22 right", x.isBelow(c, up, 'r'), true);
        Check.due("22 not left", x.isBelow(c, up, 'l'), false);
        Check.due("22 left", x.isBelow(d, up, 'l'), true);
        Check.due("22 not right", x.isBelow(d, up, 'r'), false);
        Check.due("22 strong", x.isBelow(Check.add(x, 0, 2), up, 's'), true);
        Check.due("22 not strong", x.isBelow(Check.add(x, 1, 0), up, 's'), false);
        Check.due("22 reflections", x.isBelow(Check.add(x, 0, 1, 0), up, 'm'), true);
        Check.due("22 not by reflections", x.isBelow(Check.add(x, 0, 1, 2, 1, 0), up, 'm'), true);
        Check.due("22 not by reflections", x.isBelow(Check.add(x, 1, 0), up, 'm'), false);
        Check.thrown("22 none", x, INDEX, () -> x.isBelow(99, 0, 'x'));
        Check.thrown("22 none", x, INDEX, () -> x.isBelow(0, 99, 's'));
        Check.thrown("22 no order", x, ARGUMENT, () -> x.isBelow(0, 0, 'L'));
        Check.thrown("22 no order", x, ARGUMENT, () -> x.isBelow(0, 0, '\0'));
        Bruhatry y = Check.line(0);
        Check.add(y, 0);
        Check.thrown("22 no order", y, ARGUMENT, () -> y.isBelow(0, 0, 'q'));
        Check.thrown("22 not finite", y, UNSUPPORTED, () -> y.isBelow(0, 0, 'm'));
        Check.due("22 itself", y.isBelow(0, 0, 's'), true);
    }

    private static void promise23between() {
        Bruhatry x = Check.line(3, 3);
        int one = Check.add(x);
        int top = x.longest();
        for (char kind : new char[] {'l', 'r', 's'}) {
            Check.due("23 all", x.between(one, top, kind), 24);
            Check.due("23 itself", x.between(top, top, kind), 1);
            Check.due("23 not below", x.between(top, one, kind), 0);
        }
        int mid = Check.add(x, 1);
        Check.due("23 strong", x.between(one, Check.add(x, 1, 0, 2, 1), 's'), 14);
        Check.due("23 strong", x.between(mid, Check.add(x, 1, 0, 2, 1), 's'), 10);
        Check.due("23 right", x.between(one, Check.add(x, 0, 1, 2), 'r'), 4);
        Check.due("23 left", x.between(one, Check.add(x, 1, 0, 2), 'l'), 5);
        Check.due("23 right", x.between(one, Check.add(x, 1, 0, 2), 'r'), 5);
        Check.thrown("23 none", x, INDEX, () -> x.between(99, 0, 'm'));
        Check.thrown("23 no order", x, ARGUMENT, () -> x.between(0, 0, 'm'));
        Bruhatry y = Check.shop(5);
        for (int s = 0; s < 5; s++) {
            for (int t = s + 1; t < 5; t++) {
                y.bond(s, t, 0);
            }
        }
        int ten = Check.add(y, 0, 1, 2, 3, 4, 0, 1, 2, 3, 4);
        int none = Check.add(y);
        Check.due("23 many", y.between(none, ten, 's'), freeWords(0, 1, 2, 3, 4, 0, 1, 2, 3, 4));
        Check.due("23 few", y.between(none, ten, 'r'), 11);
        int eleven = Check.add(y, 0, 1, 2, 3, 4, 0, 1, 2, 3, 4, 0);
        Check.thrown("23 length 11", y, UNSUPPORTED, () -> y.between(none, eleven, 's'));
        Check.thrown("23 length 11, not below", y, UNSUPPORTED, () -> y.between(eleven, eleven, 'l'));
        Check.due("23 first one longer", y.between(eleven, none, 'l'), 0);
        Check.thrown("23 no order", y, ARGUMENT, () -> y.between(none, eleven, 'm'));
    }

    /** How many words come of some letters of a word, if nothing but twice the same letter goes away. */
    private static int freeWords(int... letters) {
        Set<String> words = new HashSet<>();
        for (int set = 0; set < 1 << letters.length; set++) {
            StringBuilder word = new StringBuilder();
            for (int i = 0; i < letters.length; i++) {
                if ((set >> i & 1) == 1) {
                    char letter = (char) ('0' + letters[i]);
                    int last = word.length() - 1;
                    if (last >= 0 && word.charAt(last) == letter) {
                        word.setLength(last);
                    } else {
                        word.append(letter);
                    }
                }
            }
            words.add(word.toString());
        }
        return words.size();
    }

    private static void promise24moebius() {
        Bruhatry x = Check.line(3, 3);
        int one = Check.add(x);
        int a = Check.add(x, 0);
        int top = x.longest();
        Check.due("24 itself", x.moebius(a, a, 'l'), 1);
        Check.due("24 cover", x.moebius(one, a, 's'), -1);
        Check.due("24 strong", x.moebius(one, top, 's'), 1);
        Check.due("24 right", x.moebius(one, top, 'r'), -1);
        Check.due("24 left", x.moebius(a, top, 'l'), 0);
        Check.due("24 right two", x.moebius(one, Check.add(x, 0, 2), 'r'), 1);
        Check.due("24 left two", x.moebius(one, Check.add(x, 0, 1), 'l'), 0);
        Check.due("24 strong two", x.moebius(one, Check.add(x, 0, 1), 's'), 1);
        Check.due("24 way", x.moebius(Check.add(x, 2), Check.add(x, 2, 1, 0, 1), 'r'), 1);
        Check.due("24 way", x.moebius(Check.add(x, 2), Check.add(x, 2, 1, 0, 1), 'l'), 0);
        Check.due("24 not below", x.moebius(top, one, 's'), 0);
        Check.thrown("24 none", x, INDEX, () -> x.moebius(0, 99, 'm'));
        Check.thrown("24 no order", x, ARGUMENT, () -> x.moebius(0, 0, 'm'));
        Bruhatry y = Check.line(0);
        int far = Check.add(y, 0, 1, 0, 1, 0, 1, 0, 1, 0, 1, 0);
        Check.thrown("24 length 11", y, UNSUPPORTED, () -> y.moebius(far, far, 'r'));
        int ten = Check.add(y, 1, 0, 1, 0, 1, 0, 1, 0, 1, 0);
        Check.due("24 first one longer", y.moebius(far, ten, 'r'), 0);
    }

    private static void promise25r() {
        Bruhatry x = Check.line(3);
        int one = Check.add(x);
        int top = x.longest();
        long[] want = {-1, 2, -2, 1};
        for (int k = 0; k < 4; k++) {
            Check.due("25 r", x.r(one, top, k), want[k]);
        }
        Check.due("25 itself", x.r(top, top, 0), 1);
        Check.due("25 itself", x.r(top, top, 1), 0);
        Check.due("25 not below", x.r(top, one, 0), 0);
        Check.due("25 far", x.r(one, top, Integer.MAX_VALUE), 0);
        Check.thrown("25 none", x, INDEX, () -> x.r(2, 0, -1));
        Check.thrown("25 below 0", x, ARGUMENT, () -> x.r(0, 0, -1));
        Bruhatry y = Check.line(0);
        int nine = Check.add(y, 0, 1, 0, 1, 0, 1, 0, 1, 0);
        int eight = Check.add(y, 0, 1, 0, 1, 0, 1, 0, 1);
        Check.thrown("25 length 9", y, UNSUPPORTED, () -> y.r(eight, nine, 0));
        Check.thrown("25 below 0 ahead", y, ARGUMENT, () -> y.r(eight, nine, Integer.MIN_VALUE));
        Check.due("25 first one longer", y.r(nine, eight, 0), 0);
        Check.due("25 greatest power", y.r(Check.add(y), eight, 8), 1);
        Check.due("25 power 9", y.r(Check.add(y), eight, 9), 0);
    }

    private static void promise26and27() {
        Bruhatry x = Check.line(3, 3);
        int one = Check.add(x);
        int mid = Check.add(x, 1);
        int y2132 = Check.add(x, 1, 0, 2, 1);
        Check.due("26 p", x.p(mid, y2132, 0), 1);
        Check.due("26 p", x.p(mid, y2132, 1), 1);
        Check.due("26 p", x.p(one, y2132, 1), 1);
        Check.due("26 p far", x.p(one, y2132, 2), 0);
        Check.due("26 p far", x.p(one, y2132, Integer.MAX_VALUE), 0);
        Check.due("27 mu", x.mu(mid, y2132), 1);
        Check.due("27 mu, even", x.mu(one, y2132), 0);
        Check.due("27 mu, itself", x.mu(one, one), 0);
        Check.due("27 mu, cover", x.mu(one, mid), 1);
        Check.due("27 mu, not below", x.mu(y2132, mid), 0);
        int other = Check.add(x, 0, 2, 1, 0, 2);
        Check.due("26 other", x.p(Check.add(x, 0, 2), other, 1), 1);
        Check.due("26 smooth", x.p(one, x.longest(), 1), 0);
        Check.due("26 smooth", x.p(one, x.longest(), 0), 1);
        Check.due("26 not below", x.p(x.longest(), one, 0), 0);
        Check.thrown("26 none", x, INDEX, () -> x.p(99, 0, -1));
        Check.thrown("27 none", x, INDEX, () -> x.mu(0, 99));
        Check.thrown("26 below 0", x, ARGUMENT, () -> x.p(0, 0, -1));
        Bruhatry y = Check.line(0);
        int nine = Check.add(y, 0, 1, 0, 1, 0, 1, 0, 1, 0);
        int eight = Check.add(y, 0, 1, 0, 1, 0, 1, 0, 1);
        Check.thrown("26 length 9", y, UNSUPPORTED, () -> y.p(eight, nine, 0));
        Check.thrown("27 length 9", y, UNSUPPORTED, () -> y.mu(eight, nine));
        Check.due("26 length 8", y.p(Check.add(y), eight, 0), 1);
        Check.due("27 length 8, first one longer", y.mu(nine, eight), 0);
        Check.due("27 length 8", y.mu(Check.add(y, 0, 1, 0, 1, 0), eight), 0);
        laterP();
    }

    /** Other calls between, and other bonds, are not in the way of P. */
    private static void laterP() {
        Bruhatry x = Check.line(3, 3);
        int mid = Check.add(x, 1);
        int y = Check.add(x, 1, 0, 2, 1);
        long[] others = new long[6];
        for (int i = 0; i < 6; i++) {
            Check.due("26 p again", x.p(mid, y, 1), 1);
            others[i] = i == 0 ? x.words(y) : i == 1 ? x.between(mid, y, 'r') : i == 2 ? x.between(mid, y, 's')
                    : i == 3 ? x.r(mid, y, 0) : i == 4 ? x.algebra(y, mid, y, 1) : x.growth(6);
        }
        Check.due("20 between", others[0], 2);
        Check.due("23 between", others[1], 5);
        Check.due("23 between", others[2], 10);
        Check.due("25 between", others[3], -1);
        Check.due("28 between", others[4], 1);
        x.bond(0, 1, 2);
        int a = Check.add(x, 1);
        int b = Check.add(x, 1, 2, 1);
        Check.due("26 p", x.p(a, b, 0), 1);
        x.bond(1, 2, 4);
        a = Check.add(x, 2);
        b = Check.add(x, 1, 2, 1);
        Check.due("26 after another bond", x.p(a, b, 0), 1);
        Check.due("26 after another bond", x.p(Check.add(x, 2, 1, 2), b, 0), 0);
    }

    private static void promise28algebra() {
        Bruhatry x = Check.line(3);
        int a = Check.add(x, 0);
        int one = Check.add(x);
        Check.due("28 square", x.algebra(a, a, one, 1), 1);
        Check.due("28 square", x.algebra(a, a, one, 0), 0);
        Check.due("28 square", x.algebra(a, a, a, 0), -1);
        Check.due("28 square", x.algebra(a, a, a, 1), 1);
        Check.due("28 by 1", x.algebra(a, one, a, 0), 1);
        int ab = Check.add(x, 0, 1);
        int top = x.longest();
        Check.due("28 longer", x.algebra(ab, a, top, 0), 1);
        Check.due("28 other", x.algebra(ab, a, ab, 0), 0);
        Check.due("28 top by ab", x.algebra(top, ab, a, 2), 1);
        Check.due("28 far", x.algebra(top, ab, a, Integer.MAX_VALUE), 0);
        Check.thrown("28 none", x, INDEX, () -> x.algebra(4, 0, 0, -1));
        Check.thrown("28 none", x, INDEX, () -> x.algebra(0, 4, 0, -1));
        Check.thrown("28 none", x, INDEX, () -> x.algebra(0, 0, 4, -1));
        Check.thrown("28 below 0", x, ARGUMENT, () -> x.algebra(0, 0, 0, -1));
        Bruhatry y = Check.line(0);
        int nine = Check.add(y, 0, 1, 0, 1, 0, 1, 0, 1, 0);
        int eight = Check.add(y, 0, 1, 0, 1, 0, 1, 0, 1);
        int twenty = Check.add(y, 1, 0, 1, 0, 1, 0, 1, 0, 1, 0, 1, 0, 1, 0, 1, 0, 1, 0, 1, 0);
        int twentyOne = Check.add(y, 0, 1, 0, 1, 0, 1, 0, 1, 0, 1, 0, 1, 0, 1, 0, 1, 0, 1, 0, 1, 0);
        Check.thrown("28 second too long", y, UNSUPPORTED, () -> y.algebra(eight, nine, eight, 0));
        Check.thrown("28 first too long", y, UNSUPPORTED, () -> y.algebra(twentyOne, eight, eight, 0));
        Check.thrown("28 below 0 ahead", y, ARGUMENT, () -> y.algebra(twentyOne, nine, eight, -1));
        Check.due("28 long", y.algebra(twenty, eight, twenty, 0), 0);
        int twelve = Check.add(y, 1, 0, 1, 0, 1, 0, 1, 0, 1, 0, 1, 0);
        int back = Check.add(y, 0, 1, 0, 1, 0, 1, 0, 1);
        Check.due("28 greatest power", y.algebra(twenty, y.reverse(Check.add(y, 1, 0, 1, 0, 1, 0, 1, 0)), twelve, 8), 1);
        Check.due("28 same", y.areSame(back, eight), true);
    }

    private static void reflects(Bruhatry x, int count, int notCrossing, int... distances) {
        Check.due("29 reflections", x.reflections(), count);
        Check.due("32 not crossing", x.notCrossing(), notCrossing);
        for (int i = 0; i <= 5; i++) {
            Check.due("31 of distance " + i, x.ofDistance(i), i < distances.length ? distances[i] : 0);
        }
    }

    private static void promise29to32() {
        reflects(new Bruhatry(), 1, 2, 1, 1);
        reflects(Check.line(6), 6, 8, 1, 6, 5);
        reflects(Check.line(3, 3), 6, 14, 1, 6, 11, 6);
        reflects(Check.line(3, 4), 9, 20, 1, 9, 23, 15);
        reflects(Check.line(3, 3, 3), 10, 42, 1, 10, 35, 50, 24);
        reflects(Check.line(3, 4, 3), 24, 105, 1, 24, 190, 552, 385);
        reflects(Check.shop(4, 0, 1, 3, 0, 2, 3, 0, 3, 3), 12, 50, 1, 12, 50, 84, 45);
        reflects(Check.line(3, 3, 3, 3), 15, 132, 1, 15, 85, 225, 274, 120);
        reflects(Check.line(3, 4, 2, 6), 15, 160, 1, 15, 82, 198, 205, 75);
        reflects(Check.shop(5), 5, 32, 1, 5, 10, 10, 5, 1);
        Bruhatry x = Check.line(3, 3);
        Check.due("30 nothing", x.distance(Check.add(x)), 0);
        Check.due("30 reflection", x.distance(Check.add(x, 0, 1, 2, 1, 0)), 1);
        Check.due("30 longest", x.distance(x.longest()), 2);
        Check.due("30 all", x.distance(Check.add(x, 0, 1, 2)), 3);
        Check.thrown("30 none", x, INDEX, () -> x.distance(4));
        Check.thrown("31 below", x, ARGUMENT, () -> x.ofDistance(-1));
        Check.thrown("31 above", x, ARGUMENT, () -> x.ofDistance(6));
        Bruhatry y = Check.line(3, 3, 3, 4);
        Check.add(y, 0);
        Check.thrown("29 not finite", y, UNSUPPORTED, y::reflections);
        Check.thrown("30 no element", y, INDEX, () -> y.distance(1));
        Check.thrown("30 not finite", y, UNSUPPORTED, () -> y.distance(0));
        Check.thrown("31 out of range", y, ARGUMENT, () -> y.ofDistance(6));
        Check.thrown("31 not finite", y, UNSUPPORTED, () -> y.ofDistance(1));
        Check.thrown("32 not finite", y, UNSUPPORTED, y::notCrossing);
        y.bond(3, 4, 3);
        Check.due("29 after another bond", y.reflections(), 15);
        y.bond(3, 4, 2);
        Check.due("29 after another bond", y.reflections(), 11);
        Check.due("31 after another bond", y.ofDistance(5), 24);
    }

    private static void chains(int want, Bruhatry x) {
        Check.due("33 chains", x.chains(), want);
        Check.due("34 parts", x.chainParts(), 1);
        Check.due("33 chains again", x.chains(), want);
    }

    private static void promise33and34() {
        chains(1, new Bruhatry());
        chains(2, Check.line(2));
        chains(3, Check.line(3));
        chains(6, Check.line(6));
        chains(16, Check.line(3, 3));
        chains(27, Check.line(3, 4));
        chains(125, Check.line(3, 3, 3));
        chains(162, Check.shop(4, 0, 1, 3, 0, 2, 3, 0, 3, 3));
        chains(256, Check.line(3, 3, 4));
        chains(432, Check.line(3, 4, 3));
        chains(1296, Check.line(3, 3, 3, 3));
        chains(1620, Check.line(3, 4, 2, 6));
        chains(120, Check.shop(5));
        chains(1280, Check.line(4, 3, 3, 2));
        Bruhatry y = Check.line(3, 0);
        Check.thrown("33 not finite", y, UNSUPPORTED, y::chains);
        Check.thrown("34 not finite", y, UNSUPPORTED, y::chainParts);
        y.bond(1, 2, 3);
        Check.due("33 after another bond", y.chains(), 16);
        y.bond(1, 2, 2);
        Check.due("34 after another bond", y.chainParts(), 1);
        Check.due("33 after another bond", y.chains(), 9);
        y.begin(1);
        Check.due("34 with one mirror then", y.chainParts(), 1);
        Check.due("33 with one mirror then", y.chains(), 1);
    }

    private static void promise35and36() {
        Bruhatry x = Check.line(3, 3);
        Check.thrown("35 no mirror", x, INDEX, () -> x.step(3));
        Check.thrown("35 no mirror", x, INDEX, () -> x.step(-4));
        Check.thrown("35 no mirror", x, INDEX, () -> x.step(Integer.MIN_VALUE));
        Check.thrown("35 no mirror", x, INDEX, () -> x.step(Integer.MAX_VALUE));
        for (int i = 0; i < 16; i++) {
            Check.due("35 step", x.step(i % 2 == 0 ? -3 : 2), i + 1);
        }
        Check.thrown("35 full", x, STATE, () -> x.step(0));
        Check.thrown("35 no mirror, full", x, INDEX, () -> x.step(3));
        Check.due("36 braid", x.braid(), 0);
        Check.due("36 its row is empty", x.step(0), 1);
        for (int i = 1; i < 8; i++) {
            Check.due("36 braid", x.braid(), i);
        }
        x.step(0);
        Check.thrown("36 full", x, STATE, x::braid);
        Check.due("36 steps stay", x.step(0), 2);
        Bruhatry y = Check.line(3, 3, 3, 4);
        Check.thrown("36 not finite", y, UNSUPPORTED, y::braid);
        y.step(-5);
        Check.thrown("36 not finite", y, UNSUPPORTED, y::braid);
        Check.due("36 steps stay", y.step(0), 2);
    }

    private static void promise37to42() {
        Bruhatry x = Check.line(3, 3);
        int delta = Check.addBraid(x, 0, 1, 0, 2, 1, 0);
        Check.due("37 power", x.powerOf(delta), 1);
        Check.due("38 factors", x.factors(delta), 0);
        int inverse = Check.addBraid(x, -1);
        Check.due("37 power", x.powerOf(inverse), -1);
        Check.due("38 factors", x.factors(inverse), 1);
        Check.due("39 factor", x.factor(inverse, 0), 0);
        Check.due("39 form", Check.form(x, 0), Check.word(0, 1, 0, 2, 1));
        int square = Check.addBraid(x, 1, 1);
        Check.due("38 factors", x.factors(square), 2);
        int fast = Check.addBraid(x, 0, 1, 1, 0);
        int same = Check.addBraid(x, 2, -3, 0, 1, 1, 0);
        Check.due("40 same", x.areBraids(fast, same), true);
        Check.due("40 itself", x.areBraids(fast, fast), true);
        Check.due("40 other", x.areBraids(fast, square), false);
        Check.due("40 other power", x.areBraids(delta, Check.addBraid(x)), false);
        Check.thrown("37 none", x, INDEX, () -> x.powerOf(6));
        Check.thrown("38 none", x, INDEX, () -> x.factors(-1));
        Check.thrown("39 none", x, INDEX, () -> x.factor(6, 99));
        Check.thrown("39 no factor", x, MISSING, () -> x.factor(square, 2));
        Check.thrown("39 no factor", x, MISSING, () -> x.factor(square, -1));
        Check.thrown("40 none", x, INDEX, () -> x.areBraids(6, 0));
        Check.thrown("40 none", x, INDEX, () -> x.areBraids(0, 6));
        Check.thrown("41 none", x, INDEX, () -> x.cycle(6));
        Check.thrown("42 none", x, INDEX, () -> x.summit(-1));
        full(x);
        Check.thrown("39 full", x, STATE, () -> x.factor(square, 0));
        Check.thrown("39 no factor, full", x, MISSING, () -> x.factor(square, 2));
        Check.due("41 nothing to cycle", x.cycle(delta), 1);

        Bruhatry y = Check.line(3);
        int turned = Check.addBraid(y, -1, 1, 1, 0);
        Check.due("37 power", y.powerOf(turned), -1);
        int before = y.factors(turned);
        Check.due("42 summit", y.summit(turned), 0);
        Check.due("42 it stays", y.powerOf(turned), -1);
        Check.due("42 it stays", y.factors(turned), before);
        Check.due("41 cycle", y.cycle(turned), 0);
        Check.due("37 after cycling", y.powerOf(turned), 0);
        Check.due("38 after cycling", y.factors(turned), 2);
        Check.due("39 after cycling", Check.form(y, y.factor(turned, 0)), Check.word(0));
        Check.due("42 summit then", y.summit(turned), 0);
    }

    private static void promise43walls() {
        Bruhatry x = Check.line(3, 3);
        int one = Check.add(x);
        int a = Check.add(x, 0, 1);
        int b = Check.add(x, 1, 0);
        int top = x.longest();
        Check.due("43 none", x.walls(a, a), 0);
        Check.due("43 length", x.walls(one, top), 6);
        Check.due("43 both", x.walls(a, b), 2);
        Check.due("43 rest", x.walls(top, a), 4);
        Check.thrown("43 no element", x, INDEX, () -> x.walls(4, 0));
        Check.thrown("43 no element", x, INDEX, () -> x.walls(0, -1));
        Bruhatry y = Check.line(0);
        int up = Check.add(y, 0, 1, 0, 1, 0, 1, 0, 1, 0, 1, 0, 1, 0, 1, 0, 1);
        int down14 = Check.add(y, 1, 0, 1, 0, 1, 0, 1, 0, 1, 0, 1, 0, 1, 0);
        int down15 = Check.add(y, 1, 0, 1, 0, 1, 0, 1, 0, 1, 0, 1, 0, 1, 0, 1);
        Check.due("43 thirty", y.walls(up, down14), 30);
        Check.thrown("43 refused", y, UNSUPPORTED, () -> y.walls(up, down15));
        Check.due("43 same side", y.walls(up, Check.add(y, 0)), 15);
    }

    private static void promise44brings() {
        Bruhatry x = Check.line(3, 3);
        int w = Check.add(x, 0, 1, 2);
        int[] want = {1, 2, 3, 0};
        for (int p = 0; p < 4; p++) {
            Check.due("44 brings", x.brings(w, p), want[p]);
        }
        Check.thrown("44 no element", x, INDEX, () -> x.brings(1, 0));
        Check.thrown("44 no place", x, INDEX, () -> x.brings(0, 4));
        Check.thrown("44 no place", x, INDEX, () -> x.brings(0, -1));
        for (int wrong : new int[] {2, 4, 6, 0}) {
            x.bond(1, 2, wrong);
            Check.add(x, 0);
            Check.thrown("44 other bonds", x, UNSUPPORTED, () -> x.brings(0, 0));
            Check.thrown("44 no place ahead", x, INDEX, () -> x.brings(0, 4));
        }
        x.bond(1, 2, 3);
        x.bond(0, 2, 3);
        Check.add(x, 0);
        Check.thrown("44 a round of bonds", x, UNSUPPORTED, () -> x.brings(0, 0));
        Bruhatry one = new Bruhatry();
        Check.due("44 one mirror", one.brings(Check.add(one, 0), 1), 0);
    }

    private static void towers(Bruhatry x, int element, int... rows) {
        for (int i = 0; i < 7; i++) {
            Check.due("45 row " + i, x.tower(element, i), i < rows.length ? rows[i] : 0);
        }
    }

    private static void promise45tower() {
        Bruhatry x = Check.line(3, 3, 3, 3);
        towers(x, Check.add(x), 6);
        towers(x, x.longest(), 1, 1, 1, 1, 1, 1);
        towers(x, Check.add(x, 0), 5, 1);
        towers(x, Check.add(x, 0, 2), 4, 2);
        towers(x, Check.add(x, 0, 2, 4), 3, 3);
        towers(x, Check.add(x, 0, 1, 0), 4, 1, 1);
        Check.due("45 far row", x.tower(0, Integer.MAX_VALUE), 0);
        Check.thrown("45 no element", x, INDEX, () -> x.tower(6, -1));
        Check.thrown("45 no row", x, ARGUMENT, () -> x.tower(0, -1));
        Bruhatry y = Check.line(4);
        Check.add(y, 0);
        Check.thrown("45 no row", y, ARGUMENT, () -> y.tower(0, -1));
        Check.thrown("45 other bonds", y, UNSUPPORTED, () -> y.tower(0, 0));
    }

    private static void promise46pipes() {
        Bruhatry x = Check.line(3, 3);
        Check.due("46 nothing", x.pipes(Check.add(x)), 1);
        Check.due("46 one", x.pipes(Check.add(x, 2)), 3);
        Check.due("46 one", x.pipes(Check.add(x, 0)), 1);
        Check.due("46 two", x.pipes(Check.add(x, 0, 2)), 3);
        Check.due("46 two", x.pipes(Check.add(x, 1, 2)), 3);
        Check.due("46 longest", x.pipes(x.longest()), 1);
        Check.thrown("46 none", x, INDEX, () -> x.pipes(9));
        Bruhatry y = Check.line(3, 3, 3, 3);
        int top = y.longest();
        Check.thrown("46 length 15", y, UNSUPPORTED, () -> y.pipes(top));
        int eleven = y.product(top, Check.add(y, 0, 1, 2, 3));
        Check.thrown("46 length 11", y, UNSUPPORTED, () -> y.pipes(eleven));
        int ten = y.product(top, Check.add(y, 0, 1, 2, 3, 4));
        Check.due("46 length 10", y.pipes(ten) > 0, true);
        Bruhatry z = Check.line(3, 2);
        Check.add(z, 0);
        Check.thrown("46 other bonds", z, UNSUPPORTED, () -> z.pipes(0));
    }

    private static void promise47isAlike() {
        Bruhatry x = Check.line(3, 4);
        Check.due("47 same", x.isAlike(1000200000L), true);
        Check.due("47 turned", x.isAlike(2000100000L), true);
        Check.due("47 other names", x.isAlike(1200000000L), true);
        Check.due("47 others", x.isAlike(1100000000L), false);
        Check.due("47 one more", x.isAlike(1200100000L), false);
        Check.due("47 no meaning", x.isAlike(1244033444L), true);
        Check.thrown("47 no bond", x, ARGUMENT, () -> x.isAlike(1200000005L));
        Check.thrown("47 no bond", x, ARGUMENT, () -> x.isAlike(5200000000L));
        Check.thrown("47 below 0", x, ARGUMENT, () -> x.isAlike(-1));
        Check.thrown("47 below 0", x, ARGUMENT, () -> x.isAlike(Long.MIN_VALUE));
        Check.thrown("47 too many", x, ARGUMENT, () -> x.isAlike(10000000000L));
        Check.thrown("47 too many", x, ARGUMENT, () -> x.isAlike(Long.MAX_VALUE));
        Bruhatry y = Check.shop(5, 3, 4, 6, 0, 4, 0);
        Check.due("47 five", y.isAlike(34L * 100000000), true);
        Check.due("47 five", y.isAlike(3L * 1000000000 + 4), false);
        Check.due("47 five", y.isAlike(43), true);
        Check.due("47 one mirror", new Bruhatry().isAlike(4444444444L), true);
        Bruhatry two = Check.line(6);
        Check.due("47 two", two.isAlike(3000000000L), true);
        Check.due("47 two", two.isAlike(4000000000L), false);
    }

    private static void promise48to50() {
        for (int n = 1; n <= 5; n++) {
            Check.due("48 mirrors", Check.shop(n).mirrors(), n);
        }
        Bruhatry one = new Bruhatry();
        Check.thrown("49 one mirror", one, ARITHMETIC, one::bondShare);
        Check.thrown("50 none", one, ARITHMETIC, one::meanLength);
        Check.due("49 none", Check.shop(5).bondShare(), 0f);
        Check.due("49 some", Check.line(3, 0).bondShare(), 2f / 3f);
        Check.due("49 some", Check.line(3, 4, 6, 0).bondShare(), 0.4f);
        Check.due("49 all", Check.line(0).bondShare(), 1f);
        Bruhatry x = Check.line(3, 3);
        Check.add(x);
        Check.due("50 nothing", x.meanLength(), 0.0);
        Check.add(x, 0);
        Check.add(x, 0, 1, 0);
        Check.due("50 mean", x.meanLength(), 4.0 / 3.0);
    }

    private static void promise51isSound() {
        Check.due("51 new", new Bruhatry().isSound(), true);
        Bruhatry x = Check.line(3, 4, 3);
        x.longest();
        Check.add(x, 3, 2, 1, 0, 2, 1, 2);
        Check.addBraid(x, 0, 1, -3, 2, -4, 0, 1);
        Check.addBraid(x, 0, 1, 2, 3, 0, 1, 2, 3, 0, 1, 2, 3, 0, 1, 2, 3);
        String before = State.of(x);
        Check.due("51 finite", x.isSound(), true);
        Check.due("51 changes nothing", State.of(x), before);
        Bruhatry y = Check.line(0, 3, 0);
        Check.add(y, 0, 1, 0, 2, 3, 2, 1, 0, 3, 2, 1, 2, 3, 0, 1, 0, 1, 2, 3, 2);
        Check.due("51 not finite", y.isSound(), true);
    }
}
