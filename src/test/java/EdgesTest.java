import java.util.Arrays;

/**
 * All promises: each call with every choice of edge numbers at once (below the least, the least, the
 * most, above the most, and Java's own), compared with Model's answers. A yard serves many of these
 * calls, so that what one of them changed is there for the next.
 */
public final class EdgesTest {
    private static final int CALLS_OF_ONE = 200;

    private Yard x;
    private Yard model;
    private int calls;

    private EdgesTest() {
    }

    public static void main(String[] args) {
        for (Yards yards : Yards.values()) {
            for (Bounds bounds : Bounds.of(yards)) {
                new EdgesTest().all(yards, bounds);
            }
        }
        Due.end();
    }

    private static int[] edges(Bounds.Bound bound) {
        return new int[] {Integer.MIN_VALUE, bound.least() - 1, bound.least(), bound.most(), bound.most() + 1,
            Integer.MAX_VALUE};
    }

    private void all(Yards yards, Bounds bounds) {
        int choices = (int) Math.round(Math.pow(6, bounds.fine.length));
        for (int choice = 0; choice < choices; choice++) {
            int[] n = bounds.fine.clone();
            int rest = choice;
            for (int i = 0; i < n.length; i++) {
                n[i] = edges(bounds.each.get(i))[rest % 6];
                rest /= 6;
            }
            ask(yards, bounds.call, n);
        }
    }

    private void ask(Yards yards, String call, int[] n) {
        if (calls % CALLS_OF_ONE == 0) {
            x = yards.make();
            model = yards.make(Yard.of(new Model()));
        }
        calls++;
        Due.is(yards + " " + call + Arrays.toString(n), x.ask(call, n), model.ask(call, n));
    }
}
