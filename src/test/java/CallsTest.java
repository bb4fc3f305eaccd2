import com.sun.management.ThreadMXBean;
import java.lang.management.ManagementFactory;
import java.util.ArrayList;
import java.util.List;

/** All 512 calls that an object is for, and the room that they take: what is made is made once, for calls of its kind. */
public final class CallsTest {
    private static final int MOST_CALLS = 512;
    /** Some 51,000 numbers, most of them of eight bytes, and as many objects as a hundred. */
    private static final long MOST_BYTES = 500000;
    /** A row of five numbers made anew by one of the calls would take more. */
    private static final long FEW_BYTES = 400;

    private interface Asked {
        long of(Bruhatry x);
    }

    public static void main(String[] args) {
        Shop[] shops = {CallsTest::greatest, CallsTest::exchanges, CallsTest::endless, CallsTest::manyChains};
        for (Shop shop : shops) {
            answersStay(shop);
            room(shop);
        }
        refusals();
        Check.end("CallsTest");
    }

    private interface Shop {
        /** Makes a workshop by so many calls, and tells what may be asked of it. */
        int make(Bruhatry x, List<Asked> asked);
    }

    private static int bonds(Bruhatry x, int... bonds) {
        x.begin(bonds.length + 1);
        for (int i = 0; i < bonds.length; i++) {
            x.bond(i, i + 1, bonds[i]);
        }
        return bonds.length + 1;
    }

    private static int add(Bruhatry x, int... word) {
        x.erase();
        for (int s : word) {
            x.type(s);
        }
        x.element();
        return word.length + 2;
    }

    private static int braid(Bruhatry x, int... steps) {
        for (int step : steps) {
            x.step(step);
        }
        x.braid();
        return steps.length + 1;
    }

    private static int greatest(Bruhatry x, List<Asked> asked) {
        int calls = bonds(x, 3, 4, 3) + add(x, 1, 2, 1, 0, 3, 2, 1, 2) + add(x, 2, 1) + add(x);
        x.longest();
        calls += 1 + braid(x, 0, -2, 2, 3, -1, 2, 1, 0, 2, 3, -4, 1) + braid(x, 1, 1, 2);
        ofAny(asked);
        ofFinite(asked);
        return calls;
    }

    private static int exchanges(Bruhatry x, List<Asked> asked) {
        int calls = bonds(x, 3, 3, 3, 3) + add(x, 1, 2, 1, 0, 3, 2, 1, 4) + add(x, 2, 1) + add(x);
        x.longest();
        calls += 1 + braid(x, 0, -2, 2, 3, -5, 4, 1, 0, 2, 3, -4, 1) + braid(x, 1, 1, 2);
        ofAny(asked);
        ofFinite(asked);
        asked.add(y -> y.pipes(0));
        asked.add(y -> y.brings(3, 2));
        asked.add(y -> y.tower(3, 1));
        return calls;
    }

    private static int endless(Bruhatry x, List<Asked> asked) {
        int calls = bonds(x, 0, 0, 0, 0) + add(x, 0, 1, 2, 3, 4, 0, 1, 2) + add(x, 1, 4) + add(x);
        ofAny(asked);
        return calls + add(x, 4, 3, 2, 1, 0, 1, 2, 3, 4, 3, 2, 1);
    }

    private static int manyChains(Bruhatry x, List<Asked> asked) {
        int calls = bonds(x, 3, 4, 2, 6) + add(x, 0, 1, 2, 1, 3, 4, 3, 4) + add(x, 1, 4) + add(x);
        x.longest();
        ofAny(asked);
        ofFinite(asked);
        return calls + 1 + braid(x, 0, -2, 2, 3, -5, 4) + braid(x, 4, 3, 4);
    }

    /** Of the elements 0, 1 and 2. */
    private static void ofAny(List<Asked> asked) {
        asked.add(Bruhatry::order);
        asked.add(x -> x.growth(6));
        asked.add(x -> x.words(0));
        for (char kind : "lrs".toCharArray()) {
            asked.add(x -> x.between(2, 0, kind));
            asked.add(x -> x.moebius(1, 0, kind));
            asked.add(x -> x.isBelow(1, 0, kind) ? 1 : 0);
        }
        asked.add(x -> x.r(2, 0, 4));
        asked.add(x -> x.p(2, 0, 0));
        asked.add(x -> x.p(1, 0, 1));
        asked.add(x -> x.mu(1, 0));
        asked.add(x -> x.algebra(0, 0, 0, 4));
        asked.add(x -> x.walls(0, 1));
        asked.add(x -> x.root(0, 0, 0));
        asked.add(x -> x.descents(0, true));
        asked.add(x -> x.letter(0, 7));
        asked.add(x -> x.length(0) * 10L + x.elements() * x.mirrors() + x.c(0, 1));
        asked.add(x -> x.areSame(0, 1) ? 1 : 0);
        asked.add(x -> x.isAlike(1000200100L) ? 1 : 0);
        asked.add(x -> (long) (1000 * x.meanLength() + 1000 * x.bondShare()));
        asked.add(x -> x.isSound() ? 1 : 0);
    }

    /** And of the braids 0 and 1. */
    private static void ofFinite(List<Asked> asked) {
        asked.add(x -> x.reflections());
        asked.add(x -> x.distance(0));
        asked.add(x -> x.ofDistance(3));
        asked.add(x -> x.isBelow(1, 0, 'm') ? 1 : 0);
        asked.add(x -> x.notCrossing());
        asked.add(x -> x.chains());
        asked.add(x -> x.chainParts());
        asked.add(x -> x.powerOf(0) * 100L + x.factors(0));
        asked.add(x -> x.summit(0));
        asked.add(x -> x.areBraids(0, 1) ? 1 : 0);
    }

    /** Each call answers as on an object that has met nothing before, up to the last one. */
    private static void answersStay(Shop shop) {
        List<Asked> asked = new ArrayList<>();
        Bruhatry x = new Bruhatry();
        int calls = shop.make(x, asked);
        long[] wants = new long[asked.size()];
        for (int i = 0; i < wants.length; i++) {
            Bruhatry fresh = new Bruhatry();
            shop.make(fresh, new ArrayList<>());
            wants[i] = asked.get(i).of(fresh);
        }
        for (int i = calls; i < MOST_CALLS; i++) {
            // By each round another call is behind a call.
            int at = (int) ((long) i * (1 + i / wants.length) % wants.length);
            Check.due("call " + (i + 1), asked.get(at).of(x), wants[at]);
        }
    }

    private static void room(Shop shop) {
        ThreadMXBean threads = (ThreadMXBean) ManagementFactory.getThreadMXBean();
        long thread = Thread.currentThread().getId();
        List<Asked> asked = new ArrayList<>();
        Bruhatry other = new Bruhatry();
        shop.make(other, asked);
        Asked[] all = asked.toArray(new Asked[0]);
        askAll(other, all);
        // The list that the workshop's maker fills is small beside what is looked at.
        List<Asked> unused = new ArrayList<>();
        long before = threads.getThreadAllocatedBytes(thread);
        Bruhatry x = new Bruhatry();
        shop.make(x, unused);
        askAll(x, all);
        long made = threads.getThreadAllocatedBytes(thread) - before;
        Check.due("room for one object: " + made + " bytes", made < MOST_BYTES, true);
        before = threads.getThreadAllocatedBytes(thread);
        for (int i = 0; i < 8; i++) {
            askAll(x, all);
        }
        long more = threads.getThreadAllocatedBytes(thread) - before;
        Check.due("room that later calls take: " + more + " bytes", more < FEW_BYTES, true);
    }

    private static long askAll(Bruhatry x, Asked[] all) {
        long sum = 0;
        for (Asked call : all) {
            sum += call.of(x);
        }
        return sum;
    }

    /** A call that is refused 500 times leaves the object as it was. */
    private static void refusals() {
        Bruhatry x = new Bruhatry();
        int calls = endless(x, new ArrayList<>());
        String before = State.of(x);
        Bruhatry y = new Bruhatry();
        endless(y, new ArrayList<>());
        for (int i = calls; i < MOST_CALLS - 1; i++) {
            Check.due("refused again", Twin.answer(y, z -> z.longest()), "UnsupportedOperationException");
        }
        Check.due("the last call", y.elements(), 4);
        Check.due("refused ever again", State.of(y), before);
    }
}
