/** Promises 1 to 9: a new object, days, carts, heaps, stock. */
public final class CartsTest {
    private static final int BAD = DustYards.BAD, STATE = DustYards.STATE, FULL = DustYards.FULL;

    private CartsTest() {
    }

    public static void main(String[] args) {
        aNewObject();
        pass();
        cart();
        cartToldOfKinds();
        cartToldShort();
        cartToldRest();
        sift();
        siftStops();
        fire();
        lies();
        stock();
        sell();
        Due.end();
    }

    private static void aNewObject() {
        DustYards x = new DustYards();
        for (int what = 0; what <= 12; what++) {
            Due.is("1 count(" + what + ")", x.count(what), what == 3 ? 1 : 0);
        }
        Due.is("1 cartTold", x.cartTold(0, 0), BAD);
        for (int i = 0; i <= 5; i++) {
            Due.is("1 stock", x.stock(i), 0);
        }
        x.cart(0, 0, 0, 1, 0, 0);
        Due.is("1 another object has its own carts", new DustYards().count(1), 0);
    }

    private static void pass() {
        DustYards x = new DustYards();
        Due.is("2 pass(0)", x.pass(0), BAD);
        Due.is("2 pass(61)", x.pass(61), BAD);
        Due.is("2 pass(-1)", x.pass(-1), BAD);
        Due.is("2 pass(max)", x.pass(Integer.MAX_VALUE), BAD);
        Due.is("2 pass(1)", x.pass(1), 1);
        for (int i = 1; i <= 6; i++) {
            Due.is("2 pass(60)", x.pass(60), 1 + 60 * i);
        }
        Due.is("2 above 399", x.pass(39), FULL);
        Due.is("2 BAD ahead of FULL", x.pass(61), BAD);
        Due.is("2 DAY stays", x.count(0), 361);
        Due.is("2 up to 399", x.pass(38), 399);
        Due.is("2 behind 399", x.pass(1), FULL);
    }

    private static void cart() {
        DustYards x = new DustYards();
        int[] least = {0, 0, 0, 1, 0, 0};
        int[] most = {5, 5, 4, 9999, 90, 9999};
        Due.is("3 the least numbers", come(x, least), 0);
        Due.is("3 the greatest numbers", come(x, most), 1);
        for (int i = 0; i < 6; i++) {
            int[] low = least.clone();
            low[i]--;
            Due.is("3 below the least " + i, come(x, low), BAD);
            int[] high = most.clone();
            high[i]++;
            Due.is("3 above the greatest " + i, come(x, high), BAD);
        }
        Due.is("3 refusals change nothing", x.count(1), 2);
        for (int i = 2; i < 40; i++) {
            Due.is("3 number", come(x, least), i);
        }
        Due.is("3 FULL", come(x, least), FULL);
        Due.is("3 BAD ahead of FULL", x.cart(6, 0, 0, 1, 0, 0), BAD);
        Due.is("3 40 at most", x.count(1), 40);
        x.row(999, 999);
        Due.is("3 all lie", x.lies(0), 39);
        Due.is("3 all are asked for what is owed", x.owed(0, 0, 399), 39 * 2);
        Due.is("3 all are asked for a bid", x.bid(5, 0, 399, -1), 999 + 7992);
        Due.is("3 all burn", x.fire(0, 100), 39);
        Due.is("3 all are SIFTED", x.sift(0, 99999), 39);
    }

    private static int come(DustYards x, int[] n) {
        return x.cart(n[0], n[1], n[2], n[3], n[4], n[5]);
    }

    private static void cartToldOfKinds() {
        int[][] due = {
            {200, 400, 50, 30, 320},
            {500, 400, 50, 30, 20},
            {100, 500, 100, 30, 270},
            {700, 200, 0, 30, 70},
            {100, 700, 200, 0, 0},
            {100, 800, 50, 30, 20},
        };
        DustYards x = new DustYards();
        for (int kind = 0; kind < 6; kind++) {
            x.cart(kind, 0, 0, 1000, 0, 0);
            for (int i = 0; i < 5; i++) {
                Due.is("4 sort " + i + " of kind " + kind, x.cartTold(kind, 5 + i), due[kind][i]);
            }
        }
        // 199: each part is cut by itself, and what is cut is WASTE.
        x.cart(1, 0, 0, 199, 0, 0);
        int[] cut = {99, 79, 9, 5, 7};
        for (int i = 0; i < 5; i++) {
            Due.is("4 cut " + i, x.cartTold(6, 5 + i), cut[i]);
        }
        x.cart(0, 0, 0, 999, 33, 0);
        Due.is("4 DRY, the water cut", x.cartTold(7, 4), 999 - 329);
        x.cart(0, 0, 0, 9999, 90, 0);
        Due.is("4 DRY of much water", x.cartTold(8, 4), 9999 - 8999);
    }

    private static void cartToldShort() {
        int[] eyes = {10, 5, 25, 5, 30, 10};
        for (int kind = 0; kind < 6; kind++) {
            DustYards x = new DustYards();
            int off = 1099 * eyes[kind] / 100;
            x.cart(kind, 0, 0, 1099 - off, 0, 1099);
            Due.is("4 as far off as eyes may be, kind " + kind, x.cartTold(0, 10), 0);
            x.cart(kind, 0, 0, 1099 - off - 1, 0, 1099);
            Due.is("4 SHORT, kind " + kind, x.cartTold(1, 10), off + 1);
            x.cart(kind, 0, 0, 1100, 90, 1099);
            Due.is("4 heavier than by eye, kind " + kind, x.cartTold(2, 10), 0);
        }
    }

    private static void cartToldRest() {
        DustYards x = new DustYards();
        x.pass(7);
        x.cart(3, 4, 2, 1234, 50, 20);
        int[] due = {3, 4, 2, 1234, 617, 431, 123, 0, 18, 45, 0, 7, 0};
        for (int what = 0; what < due.length; what++) {
            Due.is("4 cartTold(0, " + what + ")", x.cartTold(0, what), due[what]);
        }
        x.pass(1);
        x.sift(2, 617);
        Due.is("4 SIFTED", x.cartTold(0, 12), 1);
        Due.is("4 DAY stays", x.cartTold(0, 11), 7);
        Due.is("4 DRY of a SIFTED one", x.cartTold(0, 4), 617);
        Due.is("4 what 13", x.cartTold(0, 13), BAD);
        Due.is("4 what -1", x.cartTold(0, -1), BAD);
        Due.is("4 cart 1", x.cartTold(1, 0), BAD);
        Due.is("4 cart -1", x.cartTold(-1, 0), BAD);
        Due.is("4 cart min", x.cartTold(Integer.MIN_VALUE, 0), BAD);
    }

    private static void sift() {
        DustYards x = new DustYards();
        Due.is("5 nothing lies", x.sift(0, 99999), 0);
        x.cart(0, 0, 0, 100, 0, 0);
        x.cart(1, 0, 1, 100, 0, 0);
        x.pass(3);
        x.cart(2, 0, 0, 200, 50, 0);
        Due.is("5 heap -1", x.sift(-1, 0), BAD);
        Due.is("5 heap 5", x.sift(5, 0), BAD);
        Due.is("5 n -1", x.sift(0, -1), BAD);
        Due.is("5 n 100000", x.sift(0, 100000), BAD);
        Due.is("5 a pound too few", x.sift(0, 99), 0);
        Due.is("5 carts of several days, to the pound", x.sift(0, 200), 2);
        Due.is("5 other heaps lie on", x.lies(1), 100);
        Due.is("5 once", x.sift(0, 99999), 0);
        Due.is("5 BREEZE", x.stock(0), 20 + 10);
        Due.is("5 SOIL", x.stock(1), 40 + 50);
        Due.is("5 BONES", x.stock(2), 5 + 10);
        Due.is("5 RAGS", x.stock(3), 3 + 3);
        Due.is("5 WASTE", x.stock(4), 32 + 27);
    }

    private static void siftStops() {
        DustYards x = new DustYards();
        x.cart(0, 0, 0, 100, 0, 0);
        x.cart(0, 0, 0, 500, 0, 0);
        x.cart(0, 0, 0, 50, 0, 0);
        Due.is("5 the second one stops it", x.sift(0, 599), 1);
        Due.is("5 the third one lies", x.cartTold(2, 12), 0);
        x.fire(0, 100);
        Due.is("5 burnt carts are SIFTED by no pounds", x.sift(0, 0), 2);
        Due.is("5 and bring nothing", x.stock(0), 20);
    }

    private static void fire() {
        DustYards x = new DustYards();
        x.cart(0, 0, 0, 199, 0, 0);
        x.cart(0, 0, 0, 150, 0, 0);
        x.cart(0, 0, 1, 150, 0, 0);
        Due.is("6 heap 5", x.fire(5, 1), BAD);
        Due.is("6 heap -1", x.fire(-1, 1), BAD);
        Due.is("6 -1 hundredths", x.fire(0, -1), BAD);
        Due.is("6 101 hundredths", x.fire(0, 101), BAD);
        Due.is("6 no hundredths", x.fire(0, 0), 0);
        Due.is("6 of each cart, cut", x.fire(0, 33), 65 + 49);
        Due.is("6 one behind the other", x.fire(0, 33), 44 + 33);
        Due.is("6 DRY is less", x.cartTold(0, 4), 90);
        Due.is("6 WEIGHT stays", x.cartTold(0, 3), 199);
        Due.is("6 SORTS by what is left", x.cartTold(0, 6), 36);
        Due.is("6 WASTE by what is left", x.cartTold(0, 9), 90 - 18 - 36 - 4 - 2);
        Due.is("6 other heaps", x.cartTold(2, 4), 150);
        x.sift(0, 90);
        Due.is("6 no SIFTED ones", x.fire(0, 100), 68);
        Due.is("6 DRY of the SIFTED one", x.cartTold(0, 4), 90);
        Due.is("6 all BURNT", x.stock(5), 65 + 49 + 44 + 33 + 68);
    }

    private static void lies() {
        DustYards x = new DustYards();
        Due.is("7 nothing", x.lies(4), 0);
        x.cart(0, 0, 4, 1000, 10, 0);
        x.cart(0, 0, 4, 500, 0, 0);
        x.cart(0, 0, 3, 7, 0, 0);
        Due.is("7 what is DRY", x.lies(4), 1400);
        x.fire(4, 50);
        Due.is("7 behind a FIRE", x.lies(4), 700);
        x.sift(4, 450);
        Due.is("7 what isn't SIFTED", x.lies(4), 250);
        Due.is("7 heap 5", x.lies(5), BAD);
        Due.is("7 heap -1", x.lies(-1), BAD);
    }

    private static void stock() {
        DustYards x = new DustYards();
        x.cart(4, 0, 0, 1000, 0, 0);
        x.cart(0, 0, 0, 1000, 0, 0);
        x.fire(0, 10);
        Due.is("8 nothing SIFTED", x.stock(1), 0);
        Due.is("8 BURNT", x.stock(5), 200);
        x.sift(0, 99999);
        int[] due = {270, 990, 225, 27, 288, 200};
        for (int i = 0; i < due.length; i++) {
            Due.is("8 stock(" + i + ")", x.stock(i), due[i]);
        }
        x.sell(1, 90);
        Due.is("8 behind a sale", x.stock(1), 900);
        Due.is("8 stock(6)", x.stock(6), BAD);
        Due.is("8 stock(-1)", x.stock(-1), BAD);
    }

    private static void sell() {
        DustYards x = new DustYards();
        x.cart(1, 0, 0, 9999, 0, 0);
        x.sift(0, 99999);
        x.pass(5);
        x.price(0, 4, 123);
        x.price(0, 6, 999);
        x.price(1, 0, 7);
        Due.is("9 sort 4", x.sell(4, 1), BAD);
        Due.is("9 sort -1", x.sell(-1, 1), BAD);
        Due.is("9 no pounds", x.sell(0, 0), BAD);
        Due.is("9 too many pounds", x.sell(0, 100000), BAD);
        Due.is("9 there is less", x.sell(0, 5000), STATE);
        Due.is("9 there is far less", x.sell(0, 99999), STATE);
        Due.is("9 PRICE of DAY, cut", x.sell(0, 99), 121);
        Due.is("9 STOCK is less", x.stock(0), 4900);
        x.pass(1);
        Due.is("9 PRICE of a later DAY", x.sell(0, 4900), 48951);
        Due.is("9 none left", x.sell(0, 1), STATE);
        Due.is("9 no PRICE of it", x.sell(2, 100), 0);
        Due.is("9 another SORT", x.sell(1, 1000), 70);
        Due.is("9 pence for all", x.count(12), 121 + 48951 + 70);
    }
}
