/** States of a workshop that the tests of boundaries share. */
final class Shops {
    private Shops() {
    }

    /** Mirrors whose neighbours have the bond 3: they exchange places. */
    static Bruhatry exchanges(int mirrors) {
        int[] bonds = new int[mirrors - 1];
        java.util.Arrays.fill(bonds, 3);
        return Check.line(bonds);
    }

    /** Two mirrors whose bond is without end. */
    static Bruhatry endless() {
        return Check.line(0);
    }

    /** The only group of more than 768 elements that is finite here: it has 1152. */
    static Bruhatry greatest() {
        return Check.line(3, 4, 3);
    }

    /** The least group that has an end, but more than 1200 elements: 1920, none longer than 20. */
    static Bruhatry leastTooGreat() {
        return Check.shop(5, 0, 1, 3, 1, 2, 3, 2, 3, 3, 2, 4, 3);
    }

    /** A group of 3840 elements; its longest one has the length 25. */
    static Bruhatry lengthOf25() {
        return Check.line(3, 3, 3, 4);
    }

    /** As many mirrors in turn, 0 and 1. */
    static int[] turns(int size, int first) {
        int[] word = new int[size];
        for (int i = 0; i < size; i++) {
            word[i] = (first + i) % 2;
        }
        return word;
    }

    static int[] joined(int[] one, int... two) {
        int[] word = java.util.Arrays.copyOf(one, one.length + two.length);
        System.arraycopy(two, 0, word, one.length, two.length);
        return word;
    }

    /** Adds the elements of words, types the word 0 then, and tells the steps 0 and its inverse, and 0. */
    static Bruhatry busy(Bruhatry x, int[]... words) {
        for (int[] word : words) {
            Check.add(x, word);
        }
        Check.typed(x, 0);
        x.step(0);
        x.step(-1);
        x.step(0);
        return x;
    }

    /** Adds the element of the word 0 until there are as many; the word is 0 then. */
    static Bruhatry filled(Bruhatry x, int count) {
        Check.typed(x, 0);
        for (int i = x.elements(); i < count; i++) {
            x.element();
        }
        return x;
    }

    /** Adds braids of one step until there are as many. */
    static Bruhatry braided(Bruhatry x, int count) {
        for (int i = 0; i < count; i++) {
            x.step(i % 2 == 0 ? 0 : -1);
            x.braid();
        }
        return x;
    }
}
