import java.util.List;
import java.util.Random;

/**
 * LANGUAGE.md's rule 7: no call throws, for any numbers in any state; also far behind the 512th call,
 * where answers are free. Numbers are edges of what may be told, and any that an int can be.
 */
public final class LongRunsTest {
    private static final int RUNS = 40, CALLS = 20000;
    private static final int[] EDGES = {0, 1, 2, 3, 4, 5, 6, 8, 9, 10, 11, 12, 16, 19, 20, 31, 39, 40, 41, 59, 60, 90, 99,
        100, 127, 128, 399, 400, 992, 999, 1000, 1023, 1024, 9999, 10000, 32768, 65536, 99999, 100000,
        Integer.MAX_VALUE};
    private static final List<String> TEXTS = List.of("pay ", "fine ", "find ", ";", "(", ")", "-", "not ", "weight",
            "9999", "*", "<", "=", " or ", " and ", "+", "price", "12345", "?", "pay 1;fine 1;find 1;");

    private LongRunsTest() {
    }

    public static void main(String[] args) {
        int calls = 0;
        for (int seed = 0; seed < RUNS; seed++) {
            calls += run(new Random(seed), seed % 4);
        }
        Due.is("no call has thrown", calls, RUNS * CALLS);
        Due.end();
    }

    private static int run(Random random, int wildness) {
        DustYards x = new DustYards();
        List<Bounds> all = Bounds.of(Yards.FILLED);
        int calls = 0;
        while (calls < CALLS) {
            int kind = random.nextInt(all.size() + 3);
            if (kind == all.size()) {
                x.text();
            } else if (kind > all.size()) {
                feed(x, random);
            } else {
                Bounds bounds = all.get(kind);
                Asked.of(x, bounds.call, numbers(random, bounds, wildness));
            }
            calls++;
        }
        return calls;
    }

    private static int[] numbers(Random random, Bounds bounds, int wildness) {
        int[] n = new int[bounds.fine.length];
        for (int i = 0; i < n.length; i++) {
            if (random.nextInt(8) < wildness) {
                int edge = EDGES[random.nextInt(EDGES.length)];
                n[i] = random.nextInt(4) == 0 ? ~edge : random.nextInt(4) == 0 ? random.nextInt() : edge;
            } else {
                Bounds.Bound bound = bounds.each.get(i);
                long span = (long) bound.most() - bound.least() + 1;
                n[i] = (int) (bound.least() + Math.floorMod(random.nextLong(), span));
            }
        }
        return n;
    }

    private static void feed(DustYards x, Random random) {
        if (random.nextInt(10) == 0) {
            x.feed(EDGES[random.nextInt(10)], random.nextLong());
            return;
        }
        Due.feed(x, TEXTS.get(random.nextInt(TEXTS.size())));
    }
}
