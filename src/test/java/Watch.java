import java.util.ArrayList;
import java.util.List;

/**
 * All that can be seen of a yard by its calls, in parts, so that a yard has calls enough for one of
 * them. A part may change the yard: it is the last that is done with it.
 */
enum Watch {
    COUNTS, CARTS_0, CARTS_10, CARTS_20, CARTS_30, PRICES, SAYS, FINDS, HANDS, SHEETS, TAPE;

    /** Whether a yard is seen to be as one that was left alone. */
    static void same(String what, Watch part, Yard changed, Yard left) {
        List<Long> seen = part.of(changed);
        List<Long> due = part.of(left);
        for (int i = 0; i < due.size(); i++) {
            Due.is(what + ": " + part + " " + i + " behind it", seen.get(i), due.get(i));
        }
    }

    List<Long> of(Yard x) {
        List<Long> seen = new ArrayList<>();
        switch (this) {
            case COUNTS -> counts(x, seen);
            case CARTS_0, CARTS_10, CARTS_20, CARTS_30 -> carts(x, seen, 10 * (ordinal() - CARTS_0.ordinal()));
            case PRICES -> prices(x, seen);
            case SAYS -> says(x, seen);
            case FINDS -> finds(x, seen);
            case HANDS -> hands(x, seen);
            case SHEETS -> sheets(x, seen);
            default -> tape(x, seen);
        }
        return seen;
    }

    private static void counts(Yard x, List<Long> seen) {
        for (int what = 0; what <= 12; what++) {
            seen.add(x.ask("count", what));
        }
        for (int i = 0; i < 6; i++) {
            seen.add(x.ask("stock", i));
            seen.add(x.ask("lies", i));
            for (int row = -1; row < 5; row++) {
                seen.add(x.ask("bid", i, 0, 399, row));
            }
            seen.add(x.ask("rounds", i, 1000, 99999));
            seen.add(x.ask("rounds", i, 9999, 400));
        }
        for (int d = 0; d < 12; d++) {
            seen.add(x.ask("miss", d));
        }
    }

    private static void carts(Yard x, List<Long> seen, int from) {
        for (int c = from; c < from + 10; c++) {
            for (int what = 0; what <= 12; what++) {
                seen.add(x.ask("cartTold", c, what));
            }
            seen.add(x.ask("taken", c, 0));
        }
    }

    private static void prices(Yard x, List<Long> seen) {
        int day = (int) x.ask("count", 0);
        for (int sort = 0; sort < 4; sort++) {
            for (int d : new int[] {0, 1, 2, 5, 100, 380, 398, 399}) {
                seen.add(x.ask("priceOf", sort, d, 0));
                seen.add(x.ask("priceOf", sort, d, day));
            }
        }
        for (int parish = 0; parish < 6; parish++) {
            for (int d : new int[] {0, 5, 6, 12, 100, 380, 398, 399}) {
                seen.add(x.ask("contractOf", parish, d));
            }
        }
    }

    private static void says(Yard x, List<Long> seen) {
        for (int c = 0; c < 40; c++) {
            for (int part = 0; part < 3; part++) {
                seen.add(x.ask("says", c, part));
            }
        }
    }

    private static void finds(Yard x, List<Long> seen) {
        for (int who = 0; who < 17; who++) {
            seen.add(x.ask("finds", who));
        }
        for (int f = 0; f < 20; f++) {
            seen.add(x.ask("whose", f));
        }
        for (int parish = 0; parish < 6; parish++) {
            seen.add(x.ask("owed", parish, 0, 399));
        }
    }

    private static void hands(Yard x, List<Long> seen) {
        for (int b = -1; b < 6; b++) {
            seen.add(x.ask("parted", b));
        }
        for (int b = 0; b < 6; b++) {
            seen.add(x.ask("stop", b, 0));
        }
        for (int weight = 0; weight < 99999; weight += 9999) {
            seen.add(x.ask("tide", weight, 0));
            seen.add(x.ask("tide", weight, 1));
        }
        seen.add(x.ask("laid", 31, -1));
        for (int h = 0; h < 10; h++) {
            for (int p = 0; p < 5; p++) {
                seen.add(x.ask("wins", h, p, 0));
            }
        }
    }

    /** What stands in a SHEET is seen by the PRICES that come of it; how long it is, by its cells. */
    private static void sheets(Yard x, List<Long> seen) {
        int day = (int) x.ask("count", 0);
        for (int s = 0; s < 4; s++) {
            for (int as = 0; as < 3; as++) {
                seen.add(x.ask("prices", 2, 10 * s, s, as, 0, 6));
            }
            for (int i = 0; i < 6; i++) {
                seen.add(x.ask("priceOf", 2, 10 * s + i, day));
            }
            for (int i : new int[] {0, 1, 2, 3, 4, 5, 39}) {
                seen.add(x.ask("cell", s, i, 0));
            }
        }
    }

    /** What stands on THE TAPE is seen by what it says when the rest of a TEXT comes behind it. */
    private static void tape(Yard x, List<Long> seen) {
        seen.add(x.text(" 6;find 7;"));
        seen.add(x.ask("count", 4));
        seen.add(x.ask("contract", 0, 0, 3));
        for (int part = 0; part < 3; part++) {
            seen.add(x.ask("says", 0, part));
        }
    }
}
