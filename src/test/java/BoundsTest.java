import java.util.Arrays;

/**
 * All promises: each number of each call as small and as large as it may be, and one beyond; what is
 * refused changes nothing, in a yard that is new, in one that has some of everything, and in one
 * that is full (where BAD stands ahead of FULL).
 */
public final class BoundsTest {
    private static final int MAX = Integer.MAX_VALUE, MIN = Integer.MIN_VALUE;

    private BoundsTest() {
    }

    public static void main(String[] args) {
        for (Yards yards : Yards.values()) {
            isAsTold(yards);
            for (Bounds bounds : Bounds.of(yards)) {
                for (int i = 0; i < bounds.fine.length; i++) {
                    bound(yards, bounds, i);
                }
            }
            feed(yards);
        }
        Due.end();
    }

    /** That the yards have what their numbers tell: else the bounds below would bind nothing. */
    private static void isAsTold(Yards y) {
        Yard x = y.make();
        int[] what = {0, 1, 3, 6, 7, 9, 11};
        int[] due = {y.day, y.carts, y.texts, y.finds, y.doors, y.rows, y.buyers};
        for (int i = 0; i < what.length; i++) {
            Due.is(y + " has count " + what[i], x.ask("count", what[i]), due[i]);
        }
        int[] most = {399, 40, 40, 6, 160, 20, 20, 12, 60, 5, 8, 6};
        for (int i = 0; i < most.length && y == Yards.FILLED; i++) {
            Due.is("FILLED is full of " + i, x.ask("count", i), most[i]);
        }
    }

    private static void bound(Yards yards, Bounds bounds, int i) {
        Bounds.Bound bound = bounds.each.get(i);
        boolean isEmpty = bound.least() > bound.most();
        if (!isEmpty) {
            fine(yards, bounds, i, bound.least(), bound.below());
            fine(yards, bounds, i, bound.most(), bound.above());
        }
        if (bound.least() > MIN) {
            refused(yards, bounds, i, bound.least() - 1, bound.below());
            refused(yards, bounds, i, MIN, bound.below());
        }
        if (bound.most() < MAX) {
            refused(yards, bounds, i, bound.most() + 1, bound.above());
            refused(yards, bounds, i, MAX, bound.above());
        }
    }

    private static int[] with(Bounds bounds, int i, int n) {
        int[] all = bounds.fine.clone();
        all[i] = n;
        return all;
    }

    /** In a new yard a cart, a DOOR and so on may be missing, whatever the other number is. */
    private static void fine(Yards yards, Bounds bounds, int i, int n, long refusal) {
        if (yards == Yards.NEW && (hasNone(bounds) || refusal == Bounds.NONE)) {
            return;
        }
        int[] all = with(bounds, i, n);
        long got = yards.make().ask(bounds.call, all);
        Due.is(yards + " " + bounds.call + Arrays.toString(all) + " is fine (answered " + got + ")",
                got == refusal ? 1 : 0, 0);
    }

    private static boolean hasNone(Bounds bounds) {
        return bounds.each.stream().anyMatch(b -> b.least() > b.most());
    }

    private static void refused(Yards yards, Bounds bounds, int i, int n, long due) {
        int[] all = with(bounds, i, n);
        String what = yards + " " + bounds.call + Arrays.toString(all);
        // What stood ahead of a place outside comes: that is told by HostTest.
        boolean changes = bounds.call.equals("prices") && due == Bounds.OUTSIDE;
        for (Watch part : Watch.values()) {
            Yard x = yards.make();
            Due.is(what, x.ask(bounds.call, all), due);
            if (changes) {
                return;
            }
            Watch.same(what, part, x, yards.make());
        }
    }

    private static void feed(Yards yards) {
        for (int n : new int[] {MIN, -1, 0, 9, MAX}) {
            for (Watch part : Watch.values()) {
                Yard x = yards.make();
                Due.is(yards + " feed(" + n + ")", x.feed(n, 0x3b3b3b3b3b3b3b3bL), Bounds.BAD);
                Watch.same(yards + " feed(" + n + ")", part, x, yards.make());
            }
        }
        for (int n : new int[] {1, 8}) {
            long due = yards == Yards.FILLED ? DustYards.FULL
                    : n + (yards == Yards.NEW ? 0 : Yards.PART_OF_A_TEXT.length());
            Due.is(yards + " feed(" + n + ")", yards.make().feed(n, 0), due);
        }
    }
}
