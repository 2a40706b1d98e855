import java.util.LinkedHashMap;
import java.util.List;
import java.util.Map;
import java.util.Random;

/** All promises: runs of 512 calls with chosen seeds, each answer compared with Model's. */
public final class RandomRunsTest {
    private static final int RUNS = 1500, CALLS = 512;
    private static final int ODD = -1;

    /** For each call the greatest number that is fine for each of its parameters; the least is 0 or 1. */
    private static final Map<String, int[]> CALLS_OF = new LinkedHashMap<>();

    static {
        CALLS_OF.put("pass", new int[] {60});
        CALLS_OF.put("cart", new int[] {5, 5, 4, 9999, 90, 9999});
        CALLS_OF.put("cartTold", new int[] {39, 12});
        CALLS_OF.put("sift", new int[] {4, 99999});
        CALLS_OF.put("fire", new int[] {4, 100});
        CALLS_OF.put("lies", new int[] {4});
        CALLS_OF.put("stock", new int[] {5});
        CALLS_OF.put("sell", new int[] {3, 99999});
        CALLS_OF.put("price", new int[] {3, 399, 999});
        CALLS_OF.put("priceOf", new int[] {3, 399, 399});
        CALLS_OF.put("feed", new int[] {8});
        CALLS_OF.put("text", new int[] {});
        CALLS_OF.put("contract", new int[] {5, 399, 5});
        CALLS_OF.put("contractOf", new int[] {5, 399});
        CALLS_OF.put("says", new int[] {39, 2});
        CALLS_OF.put("owed", new int[] {5, 399, 399});
        CALLS_OF.put("find", new int[] {39, 9, 9999});
        CALLS_OF.put("whose", new int[] {19});
        CALLS_OF.put("finds", new int[] {16});
        CALLS_OF.put("door", new int[] {5, 999, 5, 9999});
        CALLS_OF.put("miss", new int[] {11});
        CALLS_OF.put("rounds", new int[] {5, 9999, 99999});
        CALLS_OF.put("row", new int[] {999, 999});
        CALLS_OF.put("bid", new int[] {5, 399, 399, 4});
        CALLS_OF.put("wins", new int[] {9, 4, 999});
        CALLS_OF.put("laid", new int[] {1023, 4});
        CALLS_OF.put("barge", new int[] {9999, 9999});
        CALLS_OF.put("tide", new int[] {99999, 1});
        CALLS_OF.put("buyer", new int[] {9999, 999});
        CALLS_OF.put("stop", new int[] {5, 1});
        CALLS_OF.put("parted", new int[] {5});
        CALLS_OF.put("count", new int[] {12});
        CALLS_OF.put("sheet", new int[] {3, 2, 40});
        CALLS_OF.put("cell", new int[] {3, 39, 999});
        CALLS_OF.put("copy", new int[] {3, 39, 3, 39, 40});
        CALLS_OF.put("prices", new int[] {3, 399, 3, 2, 39, 40});
        CALLS_OF.put("taken", new int[] {39, 5});
    }

    private RandomRunsTest() {
    }

    public static void main(String[] args) {
        for (int seed = 0; seed < RUNS; seed++) {
            run(new Random(seed), seed);
        }
        Due.end();
    }

    private static void run(Random random, int seed) {
        DustYards x = new DustYards();
        Model model = new Model();
        List<String> names = List.copyOf(CALLS_OF.keySet());
        // Each run leans to some calls, so that some runs fill what others leave empty.
        int lean = random.nextInt(names.size());
        int smallness = random.nextInt(4);
        for (int i = 0; i < CALLS; i++) {
            String call = names.get(random.nextInt(4) == 0 ? (lean + random.nextInt(6)) % names.size()
                    : random.nextInt(names.size()));
            if (call.equals("feed")) {
                i += feed(x, model, random, seed);
                continue;
            }
            int[] n = numbers(random, CALLS_OF.get(call), smallness);
            if (call.equals("pass") && random.nextInt(4) != 0) {
                n[0] = 1 + random.nextInt(6);
            }
            Due.is("seed " + seed + ", call " + i + ": " + call + java.util.Arrays.toString(n),
                    Asked.of(x, call, n), model.ask(call, n));
        }
    }

    private static int[] numbers(Random random, int[] most, int smallness) {
        int[] n = new int[most.length];
        for (int i = 0; i < n.length; i++) {
            int odd = random.nextInt(60);
            if (odd == 0) {
                int[] edges = {-1, most[i] + 1, Integer.MAX_VALUE, Integer.MIN_VALUE, -2, most[i] + 2, 1 << 16};
                n[i] = edges[random.nextInt(edges.length)];
            } else if (odd == 1) {
                n[i] = random.nextInt(2) * most[i];
            } else if (random.nextInt(4) < smallness) {
                n[i] = random.nextInt(Math.min(most[i], 12) + 1);
            } else {
                n[i] = random.nextInt(most[i] + 1);
            }
        }
        return n;
    }

    /** A text in bytes, most of them one that can be read; how many calls it took. */
    private static int feed(DustYards x, Model model, Random random, int seed) {
        if (random.nextInt(20) == 0) {
            int n = random.nextInt(12) + ODD;
            long bytes = random.nextLong();
            Due.is("seed " + seed + ": feed " + n, x.feed(n, bytes), model.feed(n, bytes));
            return 0;
        }
        String text = RandomTexts.text(random);
        int calls = 0;
        for (int at = 0; at < text.length(); at += 8) {
            int n = Math.min(8, text.length() - at);
            long bytes = 0;
            for (int i = n - 1; i >= 0; i--) {
                bytes = bytes << 8 | text.charAt(at + i) & 255;
            }
            Due.is("seed " + seed + ": feed " + text, x.feed(n, bytes), model.feed(n, bytes));
            calls++;
        }
        if (random.nextInt(10) != 0) {
            Due.is("seed " + seed + ": text " + text, x.text(), model.ask("text"));
            calls++;
        }
        return calls;
    }
}
