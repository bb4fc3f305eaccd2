/** Makes the same workshop twice: one meets a call, the other one shows what has to be there afterwards. */
final class Twin {
    interface Recipe {
        Bruhatry make();
    }

    interface Call {
        Object of(Bruhatry x);
    }

    private Twin() {
    }

    /** What a call answers, or the name of what it throws. */
    static Object answer(Bruhatry x, Call call) {
        try {
            return call.of(x);
        } catch (RuntimeException e) {
            return e.getClass().getSimpleName();
        }
    }

    /** The call throws just this, and changes nothing. */
    static void refused(String what, Recipe recipe, Class<? extends RuntimeException> want, Call call) {
        leaves(what, recipe, want.getSimpleName(), call, recipe);
    }

    /** The call answers this, and changes nothing. */
    static void told(String what, Recipe recipe, Object want, Call call) {
        leaves(what, recipe, want, call, recipe);
    }

    /** The call answers whatever it is, but throws nothing, and changes nothing. */
    static void answered(String what, Recipe recipe, Call call) {
        Bruhatry x = recipe.make();
        Object got = answer(x, call);
        Check.due(what + " throws nothing but answers " + got, got instanceof String, false);
        Check.due(what + " changes nothing", all(x), all(recipe.make()));
    }

    /** The call answers this, and leaves what the other recipe makes. */
    static void leaves(String what, Recipe recipe, Object want, Call call, Recipe after) {
        Bruhatry x = recipe.make();
        Check.due(what, answer(x, call), want);
        Check.due(what + " leaves", all(x), all(after.make()));
    }

    /** All that can be seen of a workshop, and of its word and its steps, for which it is used up. */
    static String all(Bruhatry x) {
        StringBuilder text = new StringBuilder(State.of(x));
        text.append(" order ").append(x.order());
        factors(text, x);
        for (int s = 0; s < x.mirrors(); s++) {
            for (int t = s + 1; t < x.mirrors(); t++) {
                // Elements and braids go, the word and the steps stay, and there is room for both.
                x.bond(s, t, t == s + 1 ? 3 : 2);
            }
        }
        text.append(" word ").append(answer(x, y -> Check.form(y, y.element()))).append(x.erase());
        text.append(" step ").append(answer(x, y -> y.step(0)));
        text.append(" braid ").append(answer(x, Bruhatry::braid));
        factors(text, x);
        return text.toString();
    }

    private static void factors(StringBuilder text, Bruhatry x) {
        for (int b = 0; b < 8; b++) {
            int braid = b;
            Object power = answer(x, y -> y.powerOf(braid));
            if (power instanceof String) {
                return;
            }
            text.append(" power ").append(power);
            for (int i = 0; i < x.factors(braid); i++) {
                int index = i;
                text.append(answer(x, y -> Check.form(y, y.factor(braid, index))));
            }
        }
    }
}
