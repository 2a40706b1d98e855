/** Promises 34 to 38: sheets, prices by them, carts taken for a kind. */
public final class HostTest {
    private static final int BAD = DustYards.BAD;
    private static final int NOTHING = -11, OUTSIDE = -12, UNLIKE = -13, BELOW_ZERO = -14;
    private static final int MAX = Integer.MAX_VALUE, MIN = Integer.MIN_VALUE;

    private HostTest() {
    }

    public static void main(String[] args) {
        sheet();
        sheetIsEmptied();
        cell();
        cellNarrows();
        copy();
        copyOverlaps();
        copyRefused();
        prices();
        pricesOutside();
        pricesFull();
        pricesRefused();
        taken();
        Due.end();
    }

    private static void sheet() {
        DustYards x = new DustYards();
        Due.is("34 sheet -1", x.sheet(-1, 0, 0), BAD);
        Due.is("34 sheet 4", x.sheet(4, 0, 0), BAD);
        Due.is("34 sort -2", x.sheet(0, -2, 0), BAD);
        Due.is("34 sort 3", x.sheet(0, 3, 0), BAD);
        Due.is("34 n 41", x.sheet(0, 0, 41), BAD);
        Due.is("34 n -1", x.sheet(0, 0, -1), BELOW_ZERO);
        Due.is("34 n min", x.sheet(0, 0, MIN), BELOW_ZERO);
        Due.is("34 BAD ahead of -14", x.sheet(0, 3, -1), BAD);
        Due.is("34 it is missing yet", x.cell(0, 0, 0), NOTHING);
        for (int s = 0; s < 4; s++) {
            Due.is("34 n 40", x.sheet(s, s % 3, 40), 1);
            Due.is("34 its last item", x.cell(s, 39, 1), 1);
        }
        Due.is("34 missing, n 41", x.sheet(0, -1, 41), 1);
        Due.is("34 missing", x.cell(0, 0, 0), NOTHING);
        Due.is("34 missing, n -1", x.sheet(1, -1, -1), 1);
        Due.is("34 missing, too", x.cell(1, 0, 0), NOTHING);
        Due.is("34 sheet 4, missing", x.sheet(4, -1, 0), BAD);
        Due.is("34 a refusal changes nothing", x.sheet(2, 0, -1), BELOW_ZERO);
        Due.is("34 it stayed", x.cell(2, 39, 1), 1);
        Due.is("34 n 0", x.sheet(3, 2, 0), 1);
        Due.is("34 a row of none has no items", x.cell(3, 0, 0), OUTSIDE);
    }

    private static void sheetIsEmptied() {
        DustYards x = new DustYards();
        x.sheet(0, 2, 3);
        x.cell(0, 0, 5);
        x.cell(0, 2, 6);
        x.sheet(0, 2, 3);
        Due.is("34 all 0", x.prices(0, 0, 0, 2, 0, 3), 3);
        Due.is("34 item 0", x.priceOf(0, 0, 0), 0);
        Due.is("34 item 2", x.priceOf(0, 2, 0), 0);
    }

    private static void cell() {
        DustYards x = new DustYards();
        Due.is("35 sheet -1", x.cell(-1, 0, 0), BAD);
        Due.is("35 sheet 4", x.cell(4, 0, 0), BAD);
        Due.is("35 missing", x.cell(3, 0, 0), NOTHING);
        Due.is("35 -11 ahead of -12", x.cell(3, -1, 0), NOTHING);
        x.sheet(3, 1, 7);
        Due.is("35 item 0", x.cell(3, 0, MAX), 1);
        Due.is("35 item 6", x.cell(3, 6, MIN), 1);
        Due.is("35 item 7", x.cell(3, 7, 0), OUTSIDE);
        Due.is("35 item -1", x.cell(3, -1, 0), OUTSIDE);
        Due.is("35 item max", x.cell(3, MAX, 0), OUTSIDE);
        Due.is("35 item min", x.cell(3, MIN, 0), OUTSIDE);
    }

    /** What an item is, asked by what PRICE it makes; -1 if it makes none. */
    private static int item(int sort, int v) {
        DustYards x = new DustYards();
        x.sheet(0, sort, 1);
        x.cell(0, 0, v);
        return x.prices(0, 0, 0, sort, 0, 1) == 1 ? x.priceOf(0, 0, 0) : -1;
    }

    private static void cellNarrows() {
        Due.is("35 byte 127", item(0, 127), 127);
        Due.is("35 byte 128 is below 0", item(0, 128), -1);
        Due.is("35 byte 255 is below 0", item(0, 255), -1);
        Due.is("35 byte 256", item(0, 256), 0);
        Due.is("35 byte 300", item(0, 300), 44);
        Due.is("35 byte -129", item(0, -129), 127);
        Due.is("35 short 999", item(1, 999), 999);
        Due.is("35 short 1000", item(1, 1000), -1);
        Due.is("35 short 65536 + 7", item(1, 65536 + 7), 7);
        Due.is("35 short 65535", item(1, 65535), -1);
        Due.is("35 short -65536", item(1, -65536), 0);
        Due.is("35 int 999", item(2, 999), 999);
        Due.is("35 int 65536", item(2, 65536), -1);
        Due.is("35 int min", item(2, MIN), -1);
    }

    private static void fill(DustYards x, int sheet, int sort, int n, int first) {
        x.sheet(sheet, sort, n);
        for (int i = 0; i < n; i++) {
            x.cell(sheet, i, first + i);
        }
    }

    /** A SHEET's items, one behind the other in PRICES of RAGS from day 0 on. */
    private static void items(DustYards x, String what, int sheet, int sort, int... due) {
        Due.is(what + ", all came", x.prices(3, 0, sheet, sort, 0, due.length), due.length);
        for (int i = 0; i < due.length; i++) {
            Due.is(what + ", item " + i, x.priceOf(3, i, 0), due[i]);
        }
    }

    private static void copy() {
        DustYards x = new DustYards();
        fill(x, 0, 1, 5, 300);
        fill(x, 1, 1, 4, 10);
        Due.is("36 three", x.copy(0, 2, 1, 1, 3), 3);
        items(x, "36 the other", 1, 1, 10, 302, 303, 304);
        items(x, "36 the one stays", 0, 1, 300, 301, 302, 303, 304);
        Due.is("36 none", x.copy(0, 5, 1, 4, 0), 0);
        Due.is("36 all of it", x.copy(1, 0, 0, 1, 4), 4);
        items(x, "36 back", 0, 1, 300, 10, 302, 303, 304);
    }

    private static void copyOverlaps() {
        DustYards x = new DustYards();
        fill(x, 2, 0, 6, 1);
        Due.is("36 onto itself, behind", x.copy(2, 0, 2, 2, 4), 4);
        items(x, "36 as they were", 2, 0, 1, 2, 1, 2, 3, 4);
        fill(x, 3, 2, 6, 1);
        Due.is("36 onto itself, ahead", x.copy(3, 2, 3, 1, 4), 4);
        items(x, "36 as they were, too", 3, 2, 1, 3, 4, 5, 6, 6);
    }

    private static void copyRefused() {
        DustYards x = new DustYards();
        fill(x, 0, 1, 5, 300);
        fill(x, 1, 1, 4, 10);
        fill(x, 2, 2, 4, 10);
        Due.is("36 sheet -1", x.copy(-1, 0, 0, 0, 0), BAD);
        Due.is("36 sheet 4", x.copy(4, 0, 0, 0, 0), BAD);
        Due.is("36 other -1", x.copy(0, 0, -1, 0, 0), BAD);
        Due.is("36 other 4", x.copy(3, 0, 4, 0, 0), BAD);
        Due.is("36 the other missing", x.copy(0, 9, 3, 0, 1), NOTHING);
        Due.is("36 the one missing", x.copy(3, 0, 0, 0, -1), NOTHING);
        Due.is("36 both missing", x.copy(3, 0, 3, 0, 0), NOTHING);
        Due.is("36 unlike, ahead of -12", x.copy(0, -1, 2, 0, 1), UNLIKE);
        Due.is("36 n -1", x.copy(0, 0, 1, 0, -1), OUTSIDE);
        Due.is("36 n min", x.copy(0, 0, 1, 0, MIN), OUTSIDE);
        Due.is("36 n max", x.copy(0, 0, 1, 0, MAX), OUTSIDE);
        Due.is("36 n max from 1", x.copy(0, 1, 1, 1, MAX), OUTSIDE);
        Due.is("36 i -1", x.copy(0, -1, 1, 0, 1), OUTSIDE);
        Due.is("36 j -1", x.copy(0, 0, 1, -1, 1), OUTSIDE);
        Due.is("36 i max", x.copy(0, MAX, 1, 0, 1), OUTSIDE);
        Due.is("36 j max", x.copy(0, 0, 1, MAX, 1), OUTSIDE);
        Due.is("36 one too many of the one", x.copy(1, 1, 0, 0, 4), OUTSIDE);
        Due.is("36 one too many of the other", x.copy(0, 0, 1, 0, 5), OUTSIDE);
        Due.is("36 none, behind the end", x.copy(0, 6, 1, 0, 0), OUTSIDE);
        Due.is("36 none, behind the other's end", x.copy(0, 0, 1, 5, 0), OUTSIDE);
        items(x, "36 refusals change nothing", 1, 1, 10, 11, 12, 13);
    }

    private static void prices() {
        DustYards x = new DustYards();
        x.pass(9);
        fill(x, 0, 2, 6, 997);
        x.cell(0, 0, -1);
        Due.is("37 which came", x.prices(1, 20, 0, 2, 0, 6), 2);
        Due.is("37 PRICES", x.count(2), 2);
        Due.is("37 its DAY is left out, too", x.priceOf(1, 20, 9), 0);
        Due.is("37 the second", x.priceOf(1, 21, 9), 998);
        Due.is("37 the third", x.priceOf(1, 22, 9), 999);
        Due.is("37 the fourth is none", x.priceOf(1, 23, 9), 999);
        Due.is("37 KNOWN from DAY on", x.priceOf(1, 22, 8), 0);
        Due.is("37 another SORT", x.priceOf(0, 22, 9), 0);
        Due.is("37 from one on", x.prices(2, 0, 0, 2, 2, 1), 1);
        Due.is("37 it came", x.priceOf(2, 0, 9), 999);
        Due.is("37 no DAYS behind 399", x.prices(2, 398, 0, 2, 1, 3), 2);
        Due.is("37 none of them", x.prices(2, 0, 0, 2, 0, 0), 0);
        Due.is("37 none of them, from anywhere", x.prices(2, 0, 0, 2, -7, 0), 0);
        Due.is("37 none of them, from behind", x.prices(2, 0, 0, 2, 7, 0), 0);
    }

    private static void pricesOutside() {
        DustYards x = new DustYards();
        fill(x, 0, 0, 3, 10);
        Due.is("37 a place outside", x.prices(0, 0, 0, 0, 1, 3), OUTSIDE);
        Due.is("37 what stood ahead came", x.count(2), 2);
        Due.is("37 the first", x.priceOf(0, 0, 0), 11);
        Due.is("37 the second", x.priceOf(0, 1, 0), 12);
        Due.is("37 from -1", x.prices(0, 0, 0, 0, -1, 3), OUTSIDE);
        Due.is("37 from 3", x.prices(0, 0, 0, 0, 3, 1), OUTSIDE);
        Due.is("37 from max", x.prices(0, 0, 0, 0, MAX, 40), OUTSIDE);
        Due.is("37 from min", x.prices(0, 0, 0, 0, MIN, 40), OUTSIDE);
        Due.is("37 nothing stood ahead", x.count(2), 2);
        Due.is("37 outside behind the last DAY", x.prices(0, 399, 0, 0, 1, 3), OUTSIDE);
        Due.is("37 one more came", x.count(2), 3);
    }

    private static void pricesFull() {
        DustYards x = new DustYards();
        x.sheet(0, 0, 40);
        x.price(0, 0, 1);
        x.price(0, 0, 1);
        Due.is("37 as many as have room", x.prices(1, 0, 0, 0, 0, 40), 38);
        Due.is("37 40 of them", x.count(2), 40);
        Due.is("37 no more room", x.prices(1, 0, 0, 0, 0, 40), 0);
        Due.is("37 no more room and outside", x.prices(1, 0, 0, 0, 1, 40), OUTSIDE);
    }

    private static void pricesRefused() {
        DustYards x = new DustYards();
        x.sheet(0, 1, 4);
        Due.is("37 sort -1", x.prices(-1, 0, 0, 1, 0, 1), BAD);
        Due.is("37 sort 4", x.prices(4, 0, 0, 1, 0, 1), BAD);
        Due.is("37 day -1", x.prices(0, -1, 0, 1, 0, 1), BAD);
        Due.is("37 day 400", x.prices(0, 400, 0, 1, 0, 1), BAD);
        Due.is("37 sheet -1", x.prices(0, 0, -1, 1, 0, 1), BAD);
        Due.is("37 sheet 4", x.prices(0, 0, 4, 1, 0, 1), BAD);
        Due.is("37 as -1", x.prices(0, 0, 0, -1, 0, 1), BAD);
        Due.is("37 as 3", x.prices(0, 0, 0, 3, 0, 1), BAD);
        Due.is("37 n -1", x.prices(0, 0, 0, 1, 0, -1), BAD);
        Due.is("37 n 41", x.prices(0, 0, 0, 1, 0, 41), BAD);
        Due.is("37 BAD ahead of -11", x.prices(0, 0, 1, 1, 0, 41), BAD);
        Due.is("37 bytes", x.prices(0, 0, 0, 0, 0, 1), UNLIKE);
        Due.is("37 ints, ahead of -12", x.prices(0, 0, 0, 2, 9, 1), UNLIKE);
        Due.is("37 missing", x.prices(0, 0, 1, 2, 0, 1), NOTHING);
        Due.is("37 missing, ahead of -12", x.prices(0, 0, 1, 0, -1, 1), NOTHING);
        Due.is("37 missing, none asked", x.prices(0, 0, 1, 0, 0, 0), NOTHING);
        Due.is("37 none came", x.count(2), 0);
    }

    private static void taken() {
        DustYards x = new DustYards();
        boolean[][] is = {
            {true, false, false, false, false, false},
            {true, true, false, false, false, false},
            {true, false, true, false, false, false},
            {true, true, false, true, false, false},
            {true, false, true, false, true, false},
            {true, true, false, false, false, true},
        };
        Due.is("38 no cart", x.taken(0, 0), NOTHING);
        Due.is("38 BAD ahead of -11", x.taken(0, 6), BAD);
        for (int kind = 0; kind < 6; kind++) {
            x.cart(kind, 0, 0, 100 + kind, 50, 0);
            for (int k = 0; k < 6; k++) {
                Due.is("38 kind " + kind + " taken for " + k, x.taken(kind, k), is[kind][k] ? 100 + kind : UNLIKE);
            }
        }
        Due.is("38 k -1", x.taken(0, -1), BAD);
        Due.is("38 k 6", x.taken(0, 6), BAD);
        Due.is("38 cart 6", x.taken(6, 0), NOTHING);
        Due.is("38 cart -1", x.taken(-1, 0), NOTHING);
    }
}
