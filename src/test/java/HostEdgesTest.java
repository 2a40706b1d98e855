/** Promises 34 to 38: sheets, prices by them, carts taken for a kind; each sentence that names an edge. */
public final class HostEdgesTest {
    private static final int BAD = DustYards.BAD;
    private static final int NOTHING = -11, OUTSIDE = -12, UNLIKE = -13, BELOW_ZERO = -14;
    private static final int BYTES = 0, SHORTS = 1, INTS = 2, MISSING = -1;
    private static final int MAX = Integer.MAX_VALUE, MIN = Integer.MIN_VALUE;

    private HostEdgesTest() {
    }

    public static void main(String[] args) {
        sizesFrom0To40();
        becomesAllZero();
        becomesMissing();
        becomesOfAnotherSort();
        cellsOfEachSize();
        lowestBitsOfBytes();
        lowestBitsOfShorts();
        allBitsOfInts();
        copyOfEachSort();
        copyOfUnlikeSorts();
        copyOfNone();
        copyToTheEnds();
        copyAsTheyWere();
        copyIsRefusedWhole();
        pricesOfNone();
        pricesTakenForASort();
        pricesFrom0To999();
        pricesUpToDay399();
        pricesOfRoomForSome();
        pricesOutside();
        pricesAreToldInDay();
        pricesLeaveTheSheet();
        takenForEachKind();
        takenOfNoCart();
        takenByWeight();
        Due.end();
    }

    private static DustYards sheetOf(int sort, int... items) {
        DustYards x = new DustYards();
        fill(x, 0, sort, items);
        return x;
    }

    private static void fill(DustYards x, int sheet, int sort, int... items) {
        x.sheet(sheet, sort, items.length);
        for (int i = 0; i < items.length; i++) {
            x.cell(sheet, i, items[i]);
        }
    }

    /** The first items of a SHEET, seen by the PRICES of BONES that come of them. */
    private static void items(DustYards x, String what, int sheet, int sort, int... due) {
        Due.is(what + ": all came", x.prices(2, 0, sheet, sort, 0, due.length), due.length);
        for (int i = 0; i < due.length; i++) {
            Due.is(what + ": item " + i, x.priceOf(2, i, x.count(0)), due[i]);
        }
    }

    private static void sizesFrom0To40() {
        for (int sort = BYTES; sort <= INTS; sort++) {
            DustYards x = new DustYards();
            for (int n = 0; n <= 40; n++) {
                Due.is("34 a row of " + n, x.sheet(3, sort, n), 1);
                Due.is("35 its last item", x.cell(3, n - 1, 1), n == 0 ? OUTSIDE : 1);
                Due.is("35 one behind it", x.cell(3, n, 1), OUTSIDE);
            }
            Due.is("34 of 41", x.sheet(3, sort, 41), BAD);
            Due.is("34 of the most", x.sheet(3, sort, MAX), BAD);
            Due.is("34 of -1", x.sheet(3, sort, -1), BELOW_ZERO);
            Due.is("34 of the least", x.sheet(3, sort, MIN), BELOW_ZERO);
            Due.is("34 it stays a row of 40", x.cell(3, 39, 1), 1);
        }
    }

    private static void becomesAllZero() {
        DustYards x = sheetOf(INTS, 5, 6, 7);
        Due.is("34 the same once more", x.sheet(0, INTS, 3), 1);
        items(x, "34 all 0", 0, INTS, 0, 0, 0);
        fill(x, 0, INTS, 5, 6, 7);
        x.sheet(0, INTS, 1);
        x.sheet(0, INTS, 3);
        items(x, "34 also what lay behind a shorter one", 0, INTS, 0, 0, 0);
        fill(x, 0, INTS, 5, 6, 7);
        x.sheet(0, MISSING, 3);
        x.sheet(0, INTS, 3);
        items(x, "34 also behind a missing one", 0, INTS, 0, 0, 0);
    }

    private static void becomesMissing() {
        DustYards x = sheetOf(BYTES, 1, 2);
        Due.is("34 missing", x.sheet(0, MISSING, 2), 1);
        Due.is("35 -11", x.cell(0, 0, 1), NOTHING);
        Due.is("36 -11", x.copy(0, 0, 0, 0, 1), NOTHING);
        Due.is("37 -11", x.prices(0, 0, 0, BYTES, 0, 1), NOTHING);
        Due.is("34 missing again", x.sheet(0, MISSING, 0), 1);
        Due.is("34 n does not matter: above 40", x.sheet(0, MISSING, 41), 1);
        Due.is("34 n does not matter: below 0", x.sheet(0, MISSING, -1), 1);
        Due.is("34 sort -2", x.sheet(0, -2, 2), BAD);
        Due.is("34 a row of none isn't missing", x.sheet(0, BYTES, 0), 1);
        Due.is("35 -12", x.cell(0, 0, 1), OUTSIDE);
        Due.is("36 none of it", x.copy(0, 0, 0, 0, 0), 0);
        Due.is("37 none of it", x.prices(0, 0, 0, BYTES, 0, 0), 0);
    }

    private static void becomesOfAnotherSort() {
        DustYards x = sheetOf(INTS, 300, 400);
        x.sheet(0, BYTES, 2);
        Due.is("34 no ints any more", x.prices(0, 0, 0, INTS, 0, 2), UNLIKE);
        items(x, "34 all 0", 0, BYTES, 0, 0);
        x.cell(0, 0, 300);
        items(x, "35 as a byte", 0, BYTES, 44, 0);
        Due.is("34 refused by its size", x.sheet(0, SHORTS, 41), BAD);
        Due.is("34 it stays of bytes", x.prices(0, 0, 0, SHORTS, 0, 2), UNLIKE);
        Due.is("34 refused by a size below 0", x.sheet(0, SHORTS, -1), BELOW_ZERO);
        items(x, "34 it stays as it was", 0, BYTES, 44, 0);
    }

    private static void cellsOfEachSize() {
        DustYards x = new DustYards();
        for (int sheet = 0; sheet < 4; sheet++) {
            Due.is("35 -11, whatever i is", x.cell(sheet, -1, 0), NOTHING);
            x.sheet(sheet, sheet % 3, 10 * (sheet + 1));
            Due.is("35 the first", x.cell(sheet, 0, 1), 1);
            Due.is("35 the last", x.cell(sheet, 10 * sheet + 9, 1), 1);
            Due.is("35 behind the last", x.cell(sheet, 10 * sheet + 10, 1), OUTSIDE);
            Due.is("35 ahead of the first", x.cell(sheet, -1, 1), OUTSIDE);
            Due.is("35 the greatest place", x.cell(sheet, MAX, 1), OUTSIDE);
            Due.is("35 the least place", x.cell(sheet, MIN, 1), OUTSIDE);
        }
        Due.is("35 SHEET 4", x.cell(4, 0, 1), BAD);
        Due.is("35 SHEET -1", x.cell(-1, 0, 1), BAD);
    }

    /** What a number is as an item of a sort, seen by the PRICE that comes of it; -1: none comes. */
    private static int asItem(int sort, int v) {
        DustYards x = sheetOf(sort, v);
        return x.prices(0, 0, 0, sort, 0, 1) == 1 ? x.priceOf(0, 0, 0) : -1;
    }

    private static void lowestBitsOfBytes() {
        for (int v = -300; v <= 600; v++) {
            byte due = (byte) v;
            Due.is("35 a byte of " + v, asItem(BYTES, v), due < 0 ? -1 : due);
        }
        Due.is("35 a byte of the greatest", asItem(BYTES, MAX), -1);
        Due.is("35 a byte of the least", asItem(BYTES, MIN), 0);
    }

    private static void lowestBitsOfShorts() {
        int[] v = {0, 999, 1000, 32767, 32768, 65535, 65536, 65536 + 999, 65536 + 1000, -1, -65536, -65535, MIN, MAX};
        int[] due = {0, 999, -1, -1, -1, -1, 0, 999, -1, -1, 0, 1, 0, -1};
        for (int i = 0; i < v.length; i++) {
            Due.is("35 a short of " + v[i], asItem(SHORTS, v[i]), due[i]);
        }
    }

    private static void allBitsOfInts() {
        int[] v = {0, 999, 1000, 256, 65536, 65536 + 5, -1, -65536, MIN, MAX};
        int[] due = {0, 999, -1, 256, -1, -1, -1, -1, -1, -1};
        for (int i = 0; i < v.length; i++) {
            Due.is("35 an int of " + v[i], asItem(INTS, v[i]), due[i]);
        }
    }

    private static void copyOfEachSort() {
        for (int sort = BYTES; sort <= INTS; sort++) {
            DustYards x = sheetOf(sort, 1, 2, 3, 4);
            fill(x, 3, sort, 11, 12, 13, 14);
            Due.is("36 two", x.copy(0, 1, 3, 2, 2), 2);
            items(x, "36 they came", 3, sort, 11, 12, 2, 3);
            items(x, "36 the one stays", 0, sort, 1, 2, 3, 4);
        }
    }

    private static void copyOfUnlikeSorts() {
        for (int one = BYTES; one <= INTS; one++) {
            for (int other = BYTES; other <= INTS; other++) {
                DustYards x = sheetOf(one, 1, 2);
                fill(x, 1, other, 3, 4);
                Due.is("36 sorts " + one + ", " + other, x.copy(0, 0, 1, 0, 2), one == other ? 2 : UNLIKE);
                Due.is("36 by none, too", x.copy(0, 0, 1, 0, 0), one == other ? 0 : UNLIKE);
                items(x, "36 what came", 1, other, one == other ? 1 : 3, one == other ? 2 : 4);
            }
        }
    }

    private static void copyOfNone() {
        DustYards x = sheetOf(SHORTS, 1, 2);
        fill(x, 1, SHORTS, 3);
        Due.is("36 none", x.copy(0, 0, 1, 0, 0), 0);
        Due.is("36 none from the end on, to the end", x.copy(0, 2, 1, 1, 0), 0);
        Due.is("36 none from behind the end", x.copy(0, 3, 1, 0, 0), OUTSIDE);
        Due.is("36 none to behind the end", x.copy(0, 0, 1, 2, 0), OUTSIDE);
        Due.is("36 none from ahead of the first", x.copy(0, -1, 1, 0, 0), OUTSIDE);
        Due.is("36 none to ahead of the first", x.copy(0, 0, 1, -1, 0), OUTSIDE);
        Due.is("36 fewer than none", x.copy(0, 1, 1, 1, -1), OUTSIDE);
        Due.is("36 the fewest", x.copy(0, 0, 1, 0, MIN), OUTSIDE);
        items(x, "36 nothing came", 1, SHORTS, 3);
    }

    private static void copyToTheEnds() {
        DustYards x = new DustYards();
        x.sheet(0, INTS, 40);
        x.sheet(1, INTS, 40);
        x.sheet(2, INTS, 39);
        Due.is("36 all forty", x.copy(0, 0, 1, 0, 40), 40);
        Due.is("36 forty onto themselves", x.copy(0, 0, 0, 0, 40), 40);
        Due.is("36 41", x.copy(0, 0, 1, 0, 41), OUTSIDE);
        Due.is("36 forty to 39", x.copy(0, 0, 2, 0, 40), OUTSIDE);
        Due.is("36 forty of 39", x.copy(2, 0, 0, 0, 40), OUTSIDE);
        Due.is("36 39 from the second on", x.copy(0, 1, 2, 0, 39), 39);
        Due.is("36 39 from the third on", x.copy(0, 2, 2, 0, 39), OUTSIDE);
        Due.is("36 39 to the second on", x.copy(2, 0, 1, 1, 39), 39);
        Due.is("36 39 to the third on", x.copy(2, 0, 1, 2, 39), OUTSIDE);
        Due.is("36 the last one", x.copy(0, 39, 1, 39, 1), 1);
        Due.is("36 one behind it", x.copy(0, 40, 1, 39, 1), OUTSIDE);
        Due.is("36 to one behind it", x.copy(0, 39, 1, 40, 1), OUTSIDE);
        Due.is("36 where i and n wrap around", x.copy(0, 2, 1, 0, MAX), OUTSIDE);
        Due.is("36 where j and n wrap around", x.copy(0, 0, 1, MAX, 2), OUTSIDE);
        Due.is("36 the least i", x.copy(0, MIN, 1, 0, 1), OUTSIDE);
        Due.is("36 the least j", x.copy(0, 0, 1, MIN, 1), OUTSIDE);
    }

    private static void copyAsTheyWere() {
        DustYards x = sheetOf(BYTES, 1, 2, 3, 4, 5);
        Due.is("36 one item further", x.copy(0, 0, 0, 1, 4), 4);
        items(x, "36 further", 0, BYTES, 1, 1, 2, 3, 4);
        Due.is("36 one item back", x.copy(0, 1, 0, 0, 4), 4);
        items(x, "36 back", 0, BYTES, 1, 2, 3, 4, 4);
        Due.is("36 onto the same place", x.copy(0, 1, 0, 1, 4), 4);
        items(x, "36 the same", 0, BYTES, 1, 2, 3, 4, 4);
    }

    private static void copyIsRefusedWhole() {
        DustYards x = sheetOf(BYTES, 1, 2, 3);
        fill(x, 1, BYTES, 7, 8);
        Due.is("36 three to two", x.copy(0, 0, 1, 0, 3), OUTSIDE);
        Due.is("36 two to the second on", x.copy(0, 0, 1, 1, 2), OUTSIDE);
        Due.is("36 two from the third on", x.copy(0, 2, 1, 0, 2), OUTSIDE);
        items(x, "36 none of them came", 1, BYTES, 7, 8);
    }

    private static void pricesOfNone() {
        DustYards x = sheetOf(SHORTS, 1, 2);
        for (int from : new int[] {MIN, -1, 0, 1, 2, 3, MAX}) {
            Due.is("37 none from " + from, x.prices(0, 0, 0, SHORTS, from, 0), 0);
        }
        Due.is("37 none of a missing one", x.prices(0, 0, 1, SHORTS, 0, 0), NOTHING);
        Due.is("37 none of another sort", x.prices(0, 0, 0, INTS, 0, 0), UNLIKE);
        Due.is("37 fewer than none", x.prices(0, 0, 0, SHORTS, 0, -1), BAD);
        Due.is("37 none came", x.count(2), 0);
    }

    private static void pricesTakenForASort() {
        for (int sort = MISSING; sort <= INTS; sort++) {
            for (int as = -1; as <= 3; as++) {
                DustYards x = new DustYards();
                x.sheet(0, sort, 1);
                boolean isSort = as >= BYTES && as <= INTS;
                long due = !isSort ? BAD : sort == MISSING ? NOTHING : sort == as ? 1 : UNLIKE;
                Due.is("37 sort " + sort + " taken for " + as, x.prices(0, 0, 0, as, 0, 1), due);
                Due.is("37 came", x.count(2), due == 1 ? 1 : 0);
            }
        }
    }

    private static void pricesFrom0To999() {
        DustYards x = sheetOf(INTS, -1, 0, 999, 1000, 5);
        Due.is("37 three are PRICES", x.prices(3, 10, 0, INTS, 0, 5), 3);
        Due.is("37 three came", x.count(2), 3);
        Due.is("37 the first is left out, its DAY, too", x.priceOf(3, 10, 0), 0);
        Due.is("37 of 0 pence", x.priceOf(3, 11, 0), 0);
        Due.is("37 of 999 pence", x.priceOf(3, 12, 0), 999);
        Due.is("37 1000 is left out: the DAY ahead of it", x.priceOf(3, 13, 0), 999);
        Due.is("37 the last is for its own DAY", x.priceOf(3, 14, 0), 5);
        x.price(3, 11, 8);
        Due.is("37 one of 0 pence comes over another", x.prices(3, 11, 0, INTS, 1, 1), 1);
        Due.is("37 it is 0 again", x.priceOf(3, 11, 0), 0);
        DustYards none = sheetOf(INTS, -1, 1000, MIN, MAX);
        Due.is("37 none is a PRICE", none.prices(0, 0, 0, INTS, 0, 4), 0);
    }

    private static void pricesUpToDay399() {
        DustYards x = sheetOf(BYTES, 1, 2, 3);
        Due.is("37 to DAY 399", x.prices(0, 397, 0, BYTES, 0, 3), 3);
        Due.is("37 DAY 399", x.priceOf(0, 399, 0), 3);
        Due.is("37 one is behind 399", x.prices(1, 398, 0, BYTES, 0, 3), 2);
        Due.is("37 two are behind 399", x.prices(2, 399, 0, BYTES, 0, 3), 1);
        Due.is("37 the first came", x.priceOf(2, 399, 0), 1);
        Due.is("37 DAY 400", x.prices(3, 400, 0, BYTES, 0, 3), BAD);
        Due.is("37 DAY -1", x.prices(3, -1, 0, BYTES, 0, 3), BAD);
        Due.is("37 six came", x.count(2), 6);
    }

    private static void pricesOfRoomForSome() {
        DustYards x = new DustYards();
        x.sheet(0, SHORTS, 40);
        for (int i = 0; i < 40; i++) {
            x.cell(0, i, 100 + i);
        }
        for (int i = 0; i < 37; i++) {
            x.price(3, 0, 1);
        }
        Due.is("37 three have room", x.prices(0, 0, 0, SHORTS, 0, 40), 3);
        Due.is("37 the third", x.priceOf(0, 2, 0), 102);
        Due.is("37 the fourth did not come", x.priceOf(0, 3, 0), 102);
        Due.is("37 none has room", x.prices(0, 5, 0, SHORTS, 0, 40), 0);
        Due.is("37 none came", x.priceOf(0, 399, 0), 102);
        Due.is("10 40 of them", x.count(2), 40);
        DustYards y = new DustYards();
        y.sheet(0, SHORTS, 40);
        Due.is("37 forty of forty", y.prices(0, 0, 0, SHORTS, 0, 40), 40);
        Due.is("37 41", y.prices(0, 0, 0, SHORTS, 0, 41), BAD);
    }

    private static void pricesOutside() {
        DustYards x = sheetOf(SHORTS, 50, 2000, 70);
        Due.is("37 -12 behind the last", x.prices(0, 0, 0, SHORTS, 0, 4), OUTSIDE);
        Due.is("37 what stood ahead came", x.count(2), 2);
        Due.is("37 the first", x.priceOf(0, 0, 0), 50);
        Due.is("37 the third", x.priceOf(0, 2, 0), 70);
        Due.is("37 to the last", x.prices(1, 0, 0, SHORTS, 2, 1), 1);
        Due.is("37 from the last on, two", x.prices(1, 9, 0, SHORTS, 2, 2), OUTSIDE);
        Due.is("37 the last came", x.priceOf(1, 9, 0), 70);
        Due.is("37 from behind the last", x.prices(1, 0, 0, SHORTS, 3, 1), OUTSIDE);
        Due.is("37 from ahead of the first, though others would be in", x.prices(1, 0, 0, SHORTS, -1, 3), OUTSIDE);
        Due.is("37 from the greatest place", x.prices(1, 0, 0, SHORTS, MAX, 2), OUTSIDE);
        Due.is("37 from the least place", x.prices(1, 0, 0, SHORTS, MIN, 2), OUTSIDE);
        Due.is("37 none of these came", x.count(2), 4);
        DustYards empty = sheetOf(BYTES);
        Due.is("37 of a row of none", empty.prices(0, 0, 0, BYTES, 0, 1), OUTSIDE);
    }

    private static void pricesAreToldInDay() {
        DustYards x = sheetOf(BYTES, 5);
        x.pass(8);
        Due.is("37 one", x.prices(0, 2, 0, BYTES, 0, 1), 1);
        Due.is("37 KNOWN in DAY", x.priceOf(0, 2, 8), 5);
        Due.is("37 not ahead of it", x.priceOf(0, 2, 7), 0);
        x.price(0, 2, 6);
        Due.is("37 one that is told behind it", x.priceOf(0, 2, 8), 6);
        x.prices(0, 2, 0, BYTES, 0, 1);
        Due.is("37 once more is told last", x.priceOf(0, 2, 8), 5);
    }

    private static void pricesLeaveTheSheet() {
        DustYards x = sheetOf(INTS, 7, 8, 9);
        x.prices(0, 0, 0, INTS, 0, 3);
        items(x, "37 it is as it was", 0, INTS, 7, 8, 9);
    }

    private static void takenForEachKind() {
        DustYards x = new DustYards();
        String[] under = {"0", "10", "20", "310", "420", "510"};
        for (int kind = 0; kind < 6; kind++) {
            x.cart(kind, 0, 0, 100 + kind, 0, 0);
            for (int k = -1; k <= 6; k++) {
                boolean isKind = under[kind].indexOf('0' + k) >= 0;
                int due = k < 0 || k > 5 ? BAD : isKind ? 100 + kind : UNLIKE;
                Due.is("38 KIND " + kind + " taken for " + k, x.taken(kind, k), due);
            }
        }
    }

    private static void takenOfNoCart() {
        DustYards x = new DustYards();
        Due.is("38 no carts", x.taken(0, 0), NOTHING);
        Due.is("38 BAD ahead of -11", x.taken(0, 6), BAD);
        for (int i = 0; i < 40; i++) {
            x.cart(0, 0, 0, 1 + i, 0, 0);
            Due.is("38 the last cart", x.taken(i, 0), 1 + i);
            Due.is("38 none behind it", x.taken(i + 1, 0), NOTHING);
        }
        Due.is("38 ahead of the first", x.taken(-1, 0), NOTHING);
        Due.is("38 the least", x.taken(MIN, 5), NOTHING);
        Due.is("38 the greatest", x.taken(MAX, 5), NOTHING);
    }

    private static void takenByWeight() {
        DustYards x = new DustYards();
        x.cart(4, 0, 0, 9999, 90, 0);
        Due.is("38 WEIGHT, not DRY", x.taken(0, 2), 9999);
        x.fire(0, 100);
        Due.is("38 WEIGHT behind a FIRE", x.taken(0, 0), 9999);
        x.sift(0, 0);
        Due.is("38 a SIFTED one, too", x.taken(0, 4), 9999);
    }
}
