import java.util.ArrayList;
import java.util.List;

/** For each call of the face: numbers that are fine, and from where to where each of them may go. */
final class Bounds {
    static final long NONE = DustYards.NONE, BAD = DustYards.BAD, NO = DustYards.NO;
    static final long NOTHING = -11, OUTSIDE = -12, BELOW_ZERO = -14;

    /** A number from least to most; what is answered for one below, and for one above. */
    record Bound(int least, int most, long below, long above) {
    }

    final String call;
    final int[] fine;
    final List<Bound> each = new ArrayList<>();

    private Bounds(String call, int... fine) {
        this.call = call;
        this.fine = fine;
    }

    private Bounds to(long least, long most, long below, long above) {
        each.add(new Bound((int) least, (int) most, below, above));
        return this;
    }

    private Bounds bad(int least, int most) {
        return to(least, most, BAD, BAD);
    }

    private Bounds no(int least, int most) {
        return to(least, most, NO, NO);
    }

    private Bounds any() {
        return to(Integer.MIN_VALUE, Integer.MAX_VALUE, 0, 0);
    }

    /** feed has a long, text has no number: these two are told by tests of their own. */
    static List<Bounds> of(Yards y) {
        List<Bounds> all = new ArrayList<>();
        carts(all, y);
        contracts(all, y);
        doors(all, y);
        hands(all, y);
        host(all, y);
        return all;
    }

    private static Bounds add(List<Bounds> all, String call, int... fine) {
        Bounds bounds = new Bounds(call, fine);
        all.add(bounds);
        return bounds;
    }

    private static void carts(List<Bounds> all, Yards y) {
        add(all, "pass", 7).bad(1, 60);
        add(all, "cart", 1, 1, 1, 500, 10, 500).bad(0, 5).bad(0, 5).bad(0, 4).bad(1, 9999).bad(0, 90).bad(0, 9999);
        add(all, "cartTold", 0, 4).bad(0, y.carts - 1).bad(0, 12);
        add(all, "sift", 0, 500).bad(0, 4).bad(0, 99999);
        add(all, "fire", 0, 50).bad(0, 4).bad(0, 100);
        add(all, "lies", 0).bad(0, 4);
        add(all, "stock", 0).bad(0, 5);
        add(all, "sell", 0, 10).bad(0, 3).bad(1, 99999);
    }

    private static void contracts(List<Bounds> all, Yards y) {
        add(all, "price", 0, 5, 50).bad(0, 3).bad(0, 399).bad(0, 999);
        add(all, "priceOf", 0, 5, 0).bad(0, 3).bad(0, 399).bad(0, y.day);
        add(all, "contract", 0, 5, 0).bad(0, 5).bad(0, 399).bad(0, y.texts - 1);
        add(all, "contractOf", 0, 5).bad(0, 5).bad(0, 399);
        add(all, "says", 0, 0).no(0, y.carts - 1).no(0, 2);
        add(all, "owed", 0, 3, 9).no(0, 5).no(0, 9).no(3, 399);
        add(all, "find", 0, 1, 50).bad(0, y.carts - 1).bad(0, 9).bad(0, 9999);
        add(all, "whose", 0).bad(0, y.finds - 1);
        add(all, "finds", 3).no(0, 16);
    }

    private static void doors(List<Bounds> all, Yards y) {
        add(all, "door", 1, 100, 1, 100).bad(0, 5).bad(1, 999).bad(0, 5).bad(0, 9999);
        add(all, "miss", 0).bad(0, y.doors - 1);
        add(all, "rounds", 0, 1000, 1000).bad(0, 5).bad(1, 9999).bad(0, 99999);
        add(all, "row", 50, 60).bad(0, 999).bad(0, 999);
        add(all, "bid", 0, 3, 9, -1).no(0, 5).no(0, 9).no(3, 399).no(-1, y.rows - 1);
    }

    private static void hands(List<Bounds> all, Yards y) {
        add(all, "wins", 1, 1, 100).bad(0, 9).bad(0, 4).bad(0, 999);
        // 992 is the five last HANDS; 993 has a sixth.
        add(all, "laid", 7, -1).bad(0, 992).to(-1, 2, NONE, NONE);
        add(all, "barge", 70, 30).bad(1, 9999).bad(0, 9999);
        add(all, "tide", 100, 0).bad(0, 99999).bad(0, 1);
        add(all, "buyer", 70, 30).bad(0, 9999).bad(0, 999);
        add(all, "stop", 0, 1).bad(0, y.buyers - 1).bad(0, 1);
        add(all, "parted", -1).no(-1, y.buyers - 1);
        add(all, "count", 0).bad(0, 12);
    }

    private static void host(List<Bounds> all, Yards y) {
        int size = y == Yards.STOCKED ? 5 : 40;
        add(all, "sheet", 3, 1, 7).bad(0, 3).bad(-1, 2).to(0, 40, BELOW_ZERO, BAD);
        if (y == Yards.NEW) {
            return;
        }
        add(all, "cell", 0, 1, 9).bad(0, 3).to(0, size - 1, OUTSIDE, OUTSIDE).any();
        add(all, "copy", 0, 0, 0, 2, 3).bad(0, 3).to(0, size - 3, OUTSIDE, OUTSIDE).bad(0, 3)
                .to(0, size - 3, OUTSIDE, OUTSIDE).to(0, size - 2, OUTSIDE, OUTSIDE);
        add(all, "prices", 2, 100, 0, 0, 0, 3).bad(0, 3).bad(0, 399).bad(0, 3).bad(0, 2)
                .to(0, size - 3, OUTSIDE, OUTSIDE).bad(0, 40);
        add(all, "taken", 0, 0).to(0, y.carts - 1, NOTHING, NOTHING).bad(0, 5);
    }
}
