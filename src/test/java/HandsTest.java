/** Promises 26 to 33: hands, barges, buyers, counts. */
public final class HandsTest {
    private static final int NONE = DustYards.NONE, BAD = DustYards.BAD, FULL = DustYards.FULL;
    private static final long NO = DustYards.NO;

    private HandsTest() {
    }

    public static void main(String[] args) {
        wins();
        laid();
        laidOfLikeOnes();
        laidRefused();
        barge();
        tide();
        tideOfLikeOnes();
        buyer();
        stop();
        parted();
        partedRefused();
        count();
        Due.end();
    }

    private static void wins() {
        DustYards x = new DustYards();
        Due.is("26 hand -1", x.wins(-1, 0, 0), BAD);
        Due.is("26 hand 10", x.wins(10, 0, 0), BAD);
        Due.is("26 heap -1", x.wins(0, -1, 0), BAD);
        Due.is("26 heap 5", x.wins(0, 5, 0), BAD);
        Due.is("26 n -1", x.wins(0, 0, -1), BAD);
        Due.is("26 n 1000", x.wins(0, 0, 1000), BAD);
        for (int h = 0; h < 10; h++) {
            for (int p = 0; p < 5; p++) {
                Due.is("26 0 at first", x.wins(h, p, h * 5 + p), 0);
            }
        }
        for (int h = 0; h < 10; h++) {
            for (int p = 0; p < 5; p++) {
                Due.is("26 what it was", x.wins(h, p, 999), h * 5 + p);
            }
        }
        Due.is("26 the greatest", x.wins(9, 4, 0), 999);
        Due.is("26 and 0 again", x.wins(9, 4, 1), 0);
    }

    private static void laid() {
        DustYards x = new DustYards();
        Due.is("27 no HANDS", x.laid(0, -1), 0);
        int[][] n = {{9, 8, 7, 0, 0}, {9, 9, 0, 0, 0}, {9, 0, 0, 0, 0}};
        for (int h = 0; h < 3; h++) {
            for (int p = 0; p < 5; p++) {
                x.wins(h * 4, p, n[h][p]);
            }
        }
        int bits = 1 | 16 | 256;
        Due.is("27 most together", x.laid(bits, -1), 25);
        Due.is("27 HAND 0", x.laid(bits, 0), 2);
        Due.is("27 HAND 4", x.laid(bits, 1), 1);
        Due.is("27 HAND 8", x.laid(bits, 2), 0);
        Due.is("27 one HAND", x.laid(1, -1), 9);
        Due.is("27 its HEAP", x.laid(1, 0), 0);
        Due.is("27 HANDS 4, 8", x.laid(16 | 256, -1), 18);
        Due.is("27 HAND 4 of these", x.laid(16 | 256, 0), 1);
        x.wins(9, 4, 999);
        Due.is("27 the last HAND and HEAP", x.laid(512, 0), 4);
        Due.is("27 what it wins", x.laid(512, -1), 999);
    }

    private static void laidOfLikeOnes() {
        DustYards x = new DustYards();
        for (int i = 0; i < 5; i++) {
            Due.is("27 nothing to win", x.laid(31 << 5, i), i);
        }
        Due.is("27 they win nothing", x.laid(31 << 5, -1), 0);
        // HANDS 0 and 1 win like much by (0, 1) and (1, 0); HAND 2 wins from HEAP 2 alone.
        for (int h = 0; h < 2; h++) {
            x.wins(h, 0, 5);
            x.wins(h, 1, 5);
            x.wins(h, 2, 5);
        }
        x.wins(2, 2, 1);
        x.wins(2, 0, 1);
        Due.is("27 like ones together", x.laid(7, -1), 11);
        Due.is("27 the first HAND has the lesser HEAP", x.laid(7, 0), 0);
        Due.is("27 then the second one", x.laid(7, 1), 1);
        Due.is("27 then the third one", x.laid(7, 2), 2);
    }

    private static void laidRefused() {
        DustYards x = new DustYards();
        Due.is("27 bits -1", x.laid(-1, -1), BAD);
        Due.is("27 bits 1024", x.laid(1024, -1), BAD);
        Due.is("27 six HANDS", x.laid(63, -1), BAD);
        Due.is("27 BAD ahead of NONE", x.laid(63, 9), BAD);
        Due.is("27 five HANDS", x.laid(31, -1), 0);
        Due.is("27 i behind the HANDS", x.laid(7, 3), NONE);
        Due.is("27 i -2", x.laid(7, -2), NONE);
        Due.is("27 i of no HANDS", x.laid(0, 0), NONE);
        Due.is("27 i max", x.laid(7, Integer.MAX_VALUE), NONE);
    }

    private static void barge() {
        DustYards x = new DustYards();
        Due.is("28 no weight", x.barge(0, 0), BAD);
        Due.is("28 weight 10000", x.barge(10000, 0), BAD);
        Due.is("28 freight -1", x.barge(1, -1), BAD);
        Due.is("28 freight 10000", x.barge(1, 10000), BAD);
        for (int i = 0; i < 8; i++) {
            Due.is("28 number", x.barge(i % 2 == 0 ? 1 : 9999, i % 2 * 9999), i);
        }
        Due.is("28 FULL", x.barge(1, 1), FULL);
        Due.is("28 BAD ahead of FULL", x.barge(0, 1), BAD);
        Due.is("28 BARGES", x.count(10), 8);
        Due.is("28 all of them", x.tide(99999, 1), 4 * 9999);
    }

    private static void tide() {
        DustYards x = new DustYards();
        Due.is("29 no BARGES", x.tide(99999, 0), 0);
        Due.is("29 no freight", x.tide(99999, 1), 0);
        DustYards one = new DustYards();
        one.barge(1, 1);
        Due.is("29 one BARGE", one.tide(1, 0), 1);
        x.barge(6, 30);
        x.barge(3, 14);
        x.barge(4, 16);
        x.barge(2, 9);
        Due.is("29 set for 10", x.tide(10, 0), 1 | 4);
        Due.is("29 freight for 10", x.tide(10, 1), 46);
        Due.is("29 set for 9", x.tide(9, 0), 1 | 2);
        Due.is("29 set for 5", x.tide(5, 0), 2 | 8);
        Due.is("29 set for 1", x.tide(1, 0), 0);
        Due.is("29 set for 0", x.tide(0, 0), 0);
        Due.is("29 to the pound", x.tide(15, 0), 15);
        Due.is("29 weight -1", x.tide(-1, 0), BAD);
        Due.is("29 weight 100000", x.tide(100000, 0), BAD);
        Due.is("29 what 2", x.tide(0, 2), BAD);
        Due.is("29 what -1", x.tide(0, -1), BAD);
    }

    private static void tideOfLikeOnes() {
        DustYards x = new DustYards();
        x.barge(5, 0);
        x.barge(10, 20);
        x.barge(4, 10);
        x.barge(4, 10);
        x.barge(4, 10);
        Due.is("29 the least weight", x.tide(10, 0), 4 | 8);
        Due.is("29 the least set as bits", x.tide(4, 0), 4);
        Due.is("29 no BARGE for nothing", x.tide(5, 0), 4);
        Due.is("29 the least weight of three", x.tide(14, 0), 4 | 8 | 16);
        Due.is("29 its freight", x.tide(14, 1), 30);
        Due.is("29 greatest freight ahead of weight", x.tide(18, 0), 2 | 4 | 8);
    }

    private static void buyer() {
        DustYards x = new DustYards();
        Due.is("30 need -1", x.buyer(-1, 0), BAD);
        Due.is("30 need 10000", x.buyer(10000, 0), BAD);
        Due.is("30 pence -1", x.buyer(0, -1), BAD);
        Due.is("30 pence 1000", x.buyer(0, 1000), BAD);
        for (int i = 0; i < 6; i++) {
            Due.is("30 number", x.buyer(i % 2 * 9999, 999 - i % 2 * 999), i);
        }
        Due.is("30 FULL", x.buyer(0, 0), FULL);
        Due.is("30 BAD ahead of FULL", x.buyer(0, 1000), BAD);
        Due.is("30 BUYERS", x.count(11), 6);
    }

    private static void stop() {
        DustYards x = new DustYards();
        Due.is("31 no BUYER", x.stop(0, 0), BAD);
        x.buyer(1, 1);
        x.buyer(1, 1);
        Due.is("31 buyer -1", x.stop(-1, 0), BAD);
        Due.is("31 buyer 2", x.stop(2, 0), BAD);
        Due.is("31 is 2", x.stop(0, 2), BAD);
        Due.is("31 is -1", x.stop(0, -1), BAD);
        Due.is("31 goes on at first", x.stop(1, 1), 0);
        Due.is("31 STOPS", x.stop(1, 1), 1);
        Due.is("31 the other goes on", x.stop(0, 0), 0);
        Due.is("31 goes on", x.stop(1, 0), 1);
        Due.is("31 went on", x.stop(1, 1), 0);
    }

    private static void parted() {
        DustYards x = new DustYards();
        x.cart(1, 0, 0, 1000, 0, 0);
        x.sift(0, 1000);
        x.buyer(150, 33);
        x.buyer(199, 77);
        x.buyer(199, 77);
        x.buyer(0, 999);
        x.buyer(400, 10);
        long[] all = {102, 199, 199, 0, 0};
        shares(x, "32 all go on", all);
        Due.is("32 each cut by itself", x.parted(-1), 33 + 153 + 153);
        Due.is("32 nothing is sold", x.stock(0), 500);
        Due.is("32 no pence", x.count(12), 0);
        x.stop(1, 1);
        long[] without = {150, 0, 199, 0, 151};
        shares(x, "32 one stops", without);
        Due.is("32 where the breeze goes then", x.parted(-1), 49 + 153 + 15);
        x.stop(1, 0);
        x.sell(0, 199 + 100);
        long[] less = {0, 199, 2, 0, 0};
        shares(x, "32 of like ones the least", less);
        for (int b = 0; b < 5; b++) {
            x.stop(b, 1);
        }
        shares(x, "32 all stop", new long[5]);
        Due.is("32 all stop, pence", x.parted(-1), 0);
    }

    private static void shares(DustYards x, String what, long[] due) {
        for (int b = 0; b < due.length; b++) {
            Due.is(what + ", BUYER " + b, x.parted(b), due[b]);
        }
    }

    private static void partedRefused() {
        DustYards x = new DustYards();
        Due.is("32 no BUYERS", x.parted(-1), 0);
        Due.is("32 BUYER 0", x.parted(0), NO);
        x.buyer(5, 5);
        Due.is("32 BUYER 1", x.parted(1), NO);
        Due.is("32 BUYER -2", x.parted(-2), NO);
        Due.is("32 no STOCK", x.parted(0), 0);
        for (int b = 1; b < 6; b++) {
            x.buyer(10 + b, 5);
        }
        x.cart(1, 0, 0, 200, 0, 0);
        x.sift(0, 200);
        Due.is("32 the last of six", x.parted(5), 15);
        Due.is("32 all six", x.parted(-1), 0);
        Due.is("32 none above six", x.parted(6), NO);
    }

    private static void count() {
        DustYards x = new DustYards();
        x.pass(12);
        repeat(2, i -> x.cart(0, 0, 0, 1000, 0, 0));
        repeat(3, i -> x.price(0, 0, 500));
        repeat(4, i -> Due.text(x, "pay 1;fine 1;find 1;"));
        x.feed(5, 0);
        repeat(6, i -> x.contract(0, 0, 1));
        repeat(7, i -> x.find(0, 0, 0));
        repeat(8, i -> x.door(0, 1, 0, 0));
        repeat(6, i -> x.miss(i));
        repeat(3, i -> x.row(0, 0));
        repeat(2, i -> x.barge(1, 1));
        repeat(1, i -> x.buyer(1, 1));
        x.sift(0, 99999);
        x.sell(0, 50);
        x.sell(0, 30);
        int[] due = {12, 2, 3, 5, 5, 6, 7, 8, 6, 3, 2, 1, 400};
        for (int what = 0; what < due.length; what++) {
            Due.is("33 count(" + what + ")", x.count(what), due[what]);
        }
        Due.is("33 count(13)", x.count(13), BAD);
        Due.is("33 count(-1)", x.count(-1), BAD);
    }

    private static void repeat(int n, java.util.function.IntConsumer call) {
        for (int i = 0; i < n; i++) {
            call.accept(i);
        }
    }
}
