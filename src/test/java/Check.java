import java.util.Arrays;

/** What all tests of the project share: counted comparisons, and short ways to tell workshops. */
final class Check {
    interface Call {
        Object run();
    }

    private static int wrong;
    private static int made;

    private Check() {
    }

    static void due(String what, Object got, Object want) {
        made++;
        boolean isSame = got instanceof Number && want instanceof Number && !(got instanceof Float)
                && !(got instanceof Double)
                ? ((Number) got).longValue() == ((Number) want).longValue()
                : got.equals(want);
        if (!isSame) {
            wrong++;
            if (wrong <= 40) {
                System.out.println(what + " answered " + got + ", due is " + want);
            }
        }
    }

    /** The call throws just this exception, and leaves all that can be asked as it was. */
    static void thrown(String what, Bruhatry x, Class<? extends RuntimeException> want, Call call) {
        String before = State.of(x);
        String got;
        try {
            got = "" + call.run();
        } catch (RuntimeException e) {
            got = e.getClass().getSimpleName();
        }
        due(what, got, want.getSimpleName());
        due(what + " changes nothing", State.of(x), before);
    }

    static void end(String test) {
        System.out.println(test + ": " + made + " comparisons, " + wrong + " wrong");
        if (wrong > 0) {
            System.exit(1);
        }
    }

    /** A workshop of mirrors, with bonds as rows of three. */
    static Bruhatry shop(int mirrors, int... bonds) {
        Bruhatry x = new Bruhatry();
        x.begin(mirrors);
        for (int i = 0; i + 2 < bonds.length; i += 3) {
            x.bond(bonds[i], bonds[i + 1], bonds[i + 2]);
        }
        return x;
    }

    /** A workshop whose neighbours have these bonds, all others 2. */
    static Bruhatry line(int... bonds) {
        Bruhatry x = new Bruhatry();
        x.begin(bonds.length + 1);
        for (int i = 0; i < bonds.length; i++) {
            x.bond(i, i + 1, bonds[i]);
        }
        return x;
    }

    static Bruhatry typed(Bruhatry x, int... letters) {
        x.erase();
        for (int letter : letters) {
            x.type(letter);
        }
        return x;
    }

    static int add(Bruhatry x, int... letters) {
        return typed(x, letters).element();
    }

    static int addBraid(Bruhatry x, int... steps) {
        for (int step : steps) {
            x.step(step);
        }
        return x.braid();
    }

    static String form(Bruhatry x, int element) {
        int[] letters = new int[x.length(element)];
        for (int i = 0; i < letters.length; i++) {
            letters[i] = x.letter(element, i);
        }
        return Arrays.toString(letters);
    }

    static String word(int... letters) {
        return Arrays.toString(letters);
    }
}
