/** Promises 26 to 33: hands, barges, buyers, counts; each sentence that names an edge. */
public final class HandsEdgesTest {
    private static final int NONE = DustYards.NONE, BAD = DustYards.BAD, FULL = DustYards.FULL;
    private static final long NO = DustYards.NO;
    private static final int ASH = 1;

    private HandsEdgesTest() {
    }

    public static void main(String[] args) {
        winsFrom0To999();
        laidOfNoHands();
        laidOfEachHand();
        laidOfFiveHands();
        laidByNumbers();
        likeOnesByTheLesserHeap();
        mostTogether();
        eightBarges();
        tideOfNoWeight();
        tideToThePound();
        tideOfAll();
        tideOfLikeFreight();
        tideOfLikeSets();
        sixBuyers();
        stopTellsWhatItWas();
        partedOfNoStock();
        partedToThePound();
        partedByPence();
        partedOfThoseThatGoOn();
        partedEachCut();
        partedSellsNothing();
        theGreatestParted();
        countsOfANewObject();
        countsOfNoneSuch();
        Due.end();
    }

    private static void winsFrom0To999() {
        DustYards x = new DustYards();
        Due.is("26 0 at first", x.wins(9, 4, 999), 0);
        Due.is("26 1000", x.wins(9, 4, 1000), BAD);
        Due.is("26 -1", x.wins(9, 4, -1), BAD);
        Due.is("26 what it was", x.wins(9, 4, 0), 999);
        Due.is("26 0 again", x.wins(9, 4, 0), 0);
        Due.is("26 HAND 10", x.wins(10, 0, 5), BAD);
        Due.is("26 HEAP 5 is not the next HAND's HEAP 0", x.wins(0, 5, 5), BAD);
        Due.is("26 HAND 1, HEAP 0", x.wins(1, 0, 0), 0);
        Due.is("26 HEAP -1 is not the HAND's ahead", x.wins(1, -1, 5), BAD);
        Due.is("26 HAND 0, HEAP 4", x.wins(0, 4, 0), 0);
    }

    private static void laidOfNoHands() {
        DustYards x = new DustYards();
        x.wins(0, 0, 5);
        Due.is("27 they win nothing", x.laid(0, -1), 0);
        Due.is("27 none is the first", x.laid(0, 0), NONE);
        Due.is("27 below -1", x.laid(0, -2), NONE);
    }

    private static void laidOfEachHand() {
        DustYards x = new DustYards();
        for (int h = 0; h < 10; h++) {
            x.wins(h, (h + 3) % 5, 1 + h);
        }
        for (int h = 0; h < 10; h++) {
            Due.is("27 HAND " + h + " wins", x.laid(1 << h, -1), 1 + h);
            Due.is("27 HAND " + h + " lies", x.laid(1 << h, 0), (h + 3) % 5);
            Due.is("27 no second one", x.laid(1 << h, 1), NONE);
        }
        Due.is("27 HAND 10", x.laid(1 << 10, -1), BAD);
        Due.is("27 bit 31", x.laid(1 << 31, -1), BAD);
        Due.is("27 HANDS 0 and 10", x.laid(1025, -1), BAD);
    }

    private static void laidOfFiveHands() {
        DustYards x = new DustYards();
        for (int h = 0; h < 10; h++) {
            for (int p = 0; p < 5; p++) {
                x.wins(h, p, 999);
            }
        }
        Due.is("27 the most that can be won", x.laid(31, -1), 5 * 999);
        Due.is("27 the last five HANDS", x.laid(992, -1), 5 * 999);
        Due.is("27 the last of them", x.laid(992, 4), 4);
        Due.is("27 none behind the last", x.laid(992, 5), NONE);
        for (int h = 0; h < 10; h++) {
            boolean isSixth = (31 >> h & 1) == 0;
            Due.is("27 with HAND " + h, x.laid(31 | 1 << h, -1), isSixth ? BAD : 5 * 999);
        }
        Due.is("27 all ten", x.laid(1023, -1), BAD);
    }

    private static void laidByNumbers() {
        DustYards x = new DustYards();
        x.wins(2, 4, 9);
        x.wins(5, 3, 9);
        x.wins(9, 2, 9);
        int bits = 1 << 2 | 1 << 5 | 1 << 9;
        Due.is("27 the first by numbers", x.laid(bits, 0), 4);
        Due.is("27 the second", x.laid(bits, 1), 3);
        Due.is("27 the third", x.laid(bits, 2), 2);
        Due.is("27 not by its own number", x.laid(bits, 5), NONE);
        Due.is("27 nor", x.laid(bits, 3), NONE);
    }

    private static void likeOnesByTheLesserHeap() {
        DustYards x = new DustYards();
        for (int i = 0; i < 5; i++) {
            Due.is("==== 5 nothing is won: HEAPS by numbers", x.laid(0b1010101010, i), i);
        }
        // HAND 0 could have 1 or 3; HAND 1 then 3 or 1: the lesser HEAP is the first HAND's.
        x.wins(0, 1, 4);
        x.wins(0, 3, 4);
        x.wins(1, 1, 4);
        x.wins(1, 3, 4);
        Due.is("==== 5 together", x.laid(3, -1), 8);
        Due.is("==== 5 the first has the lesser", x.laid(3, 0), 1);
        Due.is("==== 5 the second the other", x.laid(3, 1), 3);
        // HAND 2 wins nothing anywhere: the least HEAP that is left.
        Due.is("==== 5 the third has the least that is left", x.laid(7, 2), 0);
        Due.is("==== 5 the fourth", x.laid(15, 3), 2);
        Due.is("==== 5 the fifth", x.laid(31, 4), 4);
        // HAND 1 wins one more by 1: then the first HAND's lesser HEAP is not like good.
        x.wins(1, 1, 5);
        Due.is("==== 5 most goes ahead of the lesser HEAP", x.laid(3, 0), 3);
        Due.is("==== 5 the second has it", x.laid(3, 1), 1);
    }

    private static void mostTogether() {
        DustYards x = new DustYards();
        // Each HAND's own best is HEAP 0; what the others lose by that decides.
        int[][] wins = {{100, 99, 0, 0, 0}, {100, 0, 98, 0, 0}, {100, 0, 0, 97, 0}, {100, 0, 0, 0, 96}, {100, 0, 0, 0, 0}};
        for (int h = 0; h < 5; h++) {
            for (int p = 0; p < 5; p++) {
                x.wins(h, p, wins[h][p]);
            }
        }
        Due.is("27 all five", x.laid(31, -1), 99 + 98 + 97 + 96 + 100);
        int[] due = {1, 2, 3, 4, 0};
        for (int i = 0; i < 5; i++) {
            Due.is("27 HAND " + i, x.laid(31, i), due[i]);
        }
        Due.is("27 the first four", x.laid(15, -1), 99 + 98 + 97 + 100);
        Due.is("27 the fourth of these", x.laid(15, 3), 0);
    }

    private static void eightBarges() {
        DustYards x = new DustYards();
        for (int i = 0; i < 8; i++) {
            Due.is("28 its number", x.barge(9999, 9999), i);
            Due.is("29 one more", x.tide(99999, 0), (2 << i) - 1);
        }
        Due.is("28 a 9th", x.barge(1, 9999), FULL);
        Due.is("28 BAD ahead of FULL, weight", x.barge(0, 9999), BAD);
        Due.is("28 BAD ahead of FULL, freight", x.barge(1, 10000), BAD);
        Due.is("28 the 9th is not there", x.tide(1, 1), 0);
        Due.is("28 eight", x.count(10), 8);
    }

    private static void tideOfNoWeight() {
        DustYards x = new DustYards();
        Due.is("29 no BARGES: the set", x.tide(0, 0), 0);
        Due.is("29 no BARGES: freight", x.tide(0, 1), 0);
        x.barge(1, 9999);
        Due.is("29 weight 0: no BARGE", x.tide(0, 0), 0);
        Due.is("29 weight 0: no freight", x.tide(0, 1), 0);
        Due.is("29 weight 1", x.tide(1, 0), 1);
        Due.is("29 its freight", x.tide(1, 1), 9999);
        Due.is("29 weight -1", x.tide(-1, 0), BAD);
    }

    private static void tideToThePound() {
        DustYards x = new DustYards();
        x.barge(9999, 1);
        x.barge(9998, 2);
        Due.is("29 below both", x.tide(9997, 0), 0);
        Due.is("29 the second to the pound", x.tide(9998, 0), 2);
        Due.is("29 the second has more freight", x.tide(9999, 0), 2);
        Due.is("29 one below both together", x.tide(19996, 0), 2);
        Due.is("29 both to the pound", x.tide(19997, 0), 3);
        Due.is("29 both, freight", x.tide(19997, 1), 3);
    }

    private static void tideOfAll() {
        DustYards x = new DustYards();
        for (int i = 0; i < 8; i++) {
            x.barge(9999, 9999);
        }
        Due.is("29 all by the greatest weight", x.tide(99999, 0), 255);
        Due.is("29 their freight", x.tide(99999, 1), 8 * 9999);
        Due.is("29 all to the pound", x.tide(8 * 9999, 0), 255);
        Due.is("29 one less: the least set of seven", x.tide(8 * 9999 - 1, 0), 127);
        Due.is("29 above the greatest weight", x.tide(100000, 0), BAD);
        Due.is("29 what 2", x.tide(99999, 2), BAD);
        Due.is("29 what -1", x.tide(99999, -1), BAD);
    }

    private static void tideOfLikeFreight() {
        DustYards x = new DustYards();
        x.barge(10, 5);
        x.barge(9, 5);
        Due.is("==== 5 of like freight the least weight", x.tide(10, 0), 2);
        DustYards y = new DustYards();
        y.barge(9, 0);
        y.barge(1, 0);
        Due.is("==== 5 of no freight no BARGE", y.tide(99999, 0), 0);
        y.barge(5, 7);
        Due.is("==== 5 none beside it for nothing", y.tide(99999, 0), 4);
        DustYards z = new DustYards();
        z.barge(1, 6);
        z.barge(1, 6);
        z.barge(3, 12);
        Due.is("==== 5 two lighter ones ahead of one", z.tide(3, 0), 3);
        Due.is("==== 5 greatest freight ahead of least weight", z.tide(4, 0), 5);
    }

    private static void tideOfLikeSets() {
        DustYards x = new DustYards();
        x.barge(3, 3);
        x.barge(2, 2);
        x.barge(1, 1);
        // {0} and {1, 2} are like in both: 1 is less than 6.
        Due.is("==== 5 the least set as bits", x.tide(3, 0), 1);
        Due.is("==== 5 its freight", x.tide(3, 1), 3);
        DustYards y = new DustYards();
        y.barge(1, 1);
        y.barge(2, 2);
        y.barge(3, 3);
        Due.is("==== 5 more BARGES, but less as bits", y.tide(3, 0), 3);
        DustYards z = new DustYards();
        for (int i = 0; i < 8; i++) {
            z.barge(7, 7);
        }
        for (int n = 0; n <= 8; n++) {
            Due.is("==== 5 the first " + n, z.tide(7 * n + 6, 0), (1 << n) - 1);
        }
    }

    /** A yard with so much BREEZE in STOCK: half of each ASH. */
    private static DustYards withBreeze(int pounds) {
        DustYards x = new DustYards();
        for (int left = pounds; left > 0; left -= 4999) {
            x.cart(ASH, 0, 0, 2 * Math.min(left, 4999), 0, 0);
        }
        for (int i = 0; i < 5 && x.lies(0) > 0; i++) {
            x.sift(0, 99999);
        }
        Due.is("8 BREEZE", x.stock(0), pounds);
        return x;
    }

    private static void sixBuyers() {
        DustYards x = withBreeze(100);
        for (int i = 0; i < 6; i++) {
            Due.is("31 none yet", x.stop(i, 1), BAD);
            Due.is("32 none yet", x.parted(i), NO);
            Due.is("30 its number", x.buyer(9999, 998), i);
        }
        Due.is("30 a 7th", x.buyer(100, 999), FULL);
        Due.is("30 BAD ahead of FULL, need", x.buyer(10000, 0), BAD);
        Due.is("30 BAD ahead of FULL, pence", x.buyer(0, -1), BAD);
        Due.is("32 the 7th has nothing", x.parted(0), 100);
        Due.is("32 nor is it one", x.parted(6), NO);
        Due.is("31 nor does it STOP", x.stop(6, 1), BAD);
        Due.is("30 six", x.count(11), 6);
    }

    private static void stopTellsWhatItWas() {
        DustYards x = withBreeze(10);
        x.buyer(10, 10);
        Due.is("31 goes on at first", x.stop(0, 0), 0);
        Due.is("31 is 2", x.stop(0, 2), BAD);
        Due.is("31 is -1", x.stop(0, -1), BAD);
        Due.is("31 it goes on yet", x.parted(0), 10);
        Due.is("31 STOPS", x.stop(0, 1), 0);
        Due.is("31 STOPS again", x.stop(0, 1), 1);
        Due.is("31 refused", x.stop(0, 3), BAD);
        Due.is("31 it STOPS yet", x.parted(0), 0);
        Due.is("31 goes on", x.stop(0, 0), 1);
        Due.is("31 has it again", x.parted(0), 10);
    }

    private static void partedOfNoStock() {
        DustYards x = new DustYards();
        Due.is("32 no BUYERS: nothing comes of it", x.parted(-1), 0);
        Due.is("32 no BUYERS: none such", x.parted(0), NO);
        x.buyer(9999, 999);
        Due.is("32 no STOCK", x.parted(0), 0);
        Due.is("32 no pence", x.parted(-1), 0);
        x.cart(4, 0, 0, 9999, 0, 0);
        Due.is("32 what lies on a HEAP is no STOCK", x.parted(0), 0);
        Due.is("32 -2", x.parted(-2), NO);
    }

    private static void partedToThePound() {
        DustYards x = withBreeze(100);
        x.buyer(60, 20);
        x.buyer(40, 10);
        x.buyer(1, 5);
        Due.is("32 the first", x.parted(0), 60);
        Due.is("32 the second to the pound", x.parted(1), 40);
        Due.is("32 none is left", x.parted(2), 0);
        x.sell(0, 1);
        Due.is("32 one pound less", x.parted(1), 39);
        x.sell(0, 39);
        Due.is("32 the first has all", x.parted(0), 60);
        Due.is("32 the second nothing", x.parted(1), 0);
        x.sell(0, 1);
        Due.is("32 as far as it goes", x.parted(0), 59);
        DustYards more = withBreeze(200);
        more.buyer(60, 20);
        more.buyer(0, 30);
        Due.is("32 no more than it needs", more.parted(0), 60);
        Due.is("32 one that needs nothing", more.parted(1), 0);
    }

    private static void partedByPence() {
        for (int dearest = 0; dearest < 6; dearest++) {
            DustYards x = withBreeze(10);
            for (int b = 0; b < 6; b++) {
                x.buyer(10, b == dearest ? 999 : 998);
            }
            for (int b = 0; b < 6; b++) {
                Due.is("==== 5 the greatest pence first: " + dearest, x.parted(b), b == dearest ? 10 : 0);
            }
        }
        DustYards x = withBreeze(35);
        for (int b = 0; b < 6; b++) {
            x.buyer(10, 7);
        }
        long[] due = {10, 10, 10, 5, 0, 0};
        for (int b = 0; b < 6; b++) {
            Due.is("==== 5 of like ones the least BUYER", x.parted(b), due[b]);
        }
        DustYards none = withBreeze(10);
        none.buyer(10, 0);
        Due.is("==== 5 one of no pence", none.parted(0), 10);
        Due.is("==== 5 it comes to nothing", none.parted(-1), 0);
    }

    private static void partedOfThoseThatGoOn() {
        DustYards x = withBreeze(30);
        x.buyer(10, 100);
        x.buyer(20, 90);
        x.buyer(30, 80);
        x.stop(0, 1);
        Due.is("==== 5 one that STOPS has nothing", x.parted(0), 0);
        Due.is("==== 5 the next ones go ahead", x.parted(1), 20);
        Due.is("==== 5 and have what is left", x.parted(2), 10);
        Due.is("==== 5 pence of those alone", x.parted(-1), 18 + 8);
        x.stop(1, 1);
        Due.is("==== 5 the last has all", x.parted(2), 30);
        x.stop(2, 1);
        Due.is("==== 5 all STOP", x.parted(-1), 0);
        x.stop(0, 0);
        Due.is("==== 5 the first goes on", x.parted(0), 10);
        Due.is("==== 5 what is left goes to none", x.parted(-1), 10);
    }

    private static void partedEachCut() {
        DustYards x = withBreeze(99);
        x.buyer(33, 5);
        x.buyer(33, 4);
        x.buyer(33, 3);
        Due.is("32 1.65, 1.32, 0.99, each cut", x.parted(-1), 1 + 1 + 0);
        DustYards y = withBreeze(99);
        y.buyer(99, 1);
        Due.is("32 below a penny", y.parted(-1), 0);
        DustYards z = withBreeze(100);
        z.buyer(100, 1);
        Due.is("32 a penny", z.parted(-1), 1);
    }

    private static void partedSellsNothing() {
        DustYards x = withBreeze(100);
        x.buyer(50, 100);
        for (int i = 0; i < 3; i++) {
            Due.is("32 the same again", x.parted(0), 50);
            Due.is("32 pence again", x.parted(-1), 50);
        }
        Due.is("32 STOCK stays", x.stock(0), 100);
        Due.is("32 no pence for SOLD", x.count(12), 0);
        Due.is("32 by the BUYER's pence, not by PRICE", x.price(0, 0, 900), 1);
        Due.is("32 so it stays", x.parted(-1), 50);
    }

    private static void theGreatestParted() {
        DustYards x = withBreeze(60000);
        for (int b = 0; b < 6; b++) {
            x.buyer(9999, 999);
        }
        Due.is("32 the last has its need, too", x.parted(5), 9999);
        Due.is("32 what all comes to", x.parted(-1), 6 * (9999 * 999 / 100));
    }

    private static void countsOfANewObject() {
        DustYards x = new DustYards();
        for (int what = 0; what <= 12; what++) {
            Due.is("33 of a new object, " + what, x.count(what), what == 3 ? 1 : 0);
        }
    }

    private static void countsOfNoneSuch() {
        DustYards x = new DustYards();
        for (int what : new int[] {-1, 13, Integer.MIN_VALUE, Integer.MAX_VALUE}) {
            Due.is("33 count(" + what + ")", x.count(what), BAD);
        }
    }
}
