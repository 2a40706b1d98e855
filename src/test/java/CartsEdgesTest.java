/** Promises 1 to 9: the sentences of the document that name an edge, each with a test of its own. */
public final class CartsEdgesTest {
    private static final int BAD = DustYards.BAD, STATE = DustYards.STATE, FULL = DustYards.FULL;
    private static final int CINDER = 3;

    private CartsEdgesTest() {
    }

    public static void main(String[] args) {
        constantsAreAsTold();
        aNewObjectIsEmpty();
        dayGoesTo399();
        sixtyDaysUpTo399();
        waterFrom0To90();
        waterIsCut();
        sortsOfOnePound();
        shortByEyeFrom0();
        shortIsCut();
        shortByAllThatItIsBelow();
        shortByWeightNotByDry();
        toldOfEachCart();
        siftToThePound();
        siftOfNothing();
        siftTheMostPounds();
        siftStopsAtTheFirst();
        fireOfNoneAndOfAll();
        fireIsCut();
        firesOneBehindTheOther();
        fireComesOnceOnly();
        aHeapOfFortyCarts();
        stockAgreesToThePound();
        sellTheLastPound();
        sellTheMostPounds();
        sellIsCut();
        sellByWhatIsKnownNow();
        Due.end();
    }

    private static void constantsAreAsTold() {
        Due.is("==== 1 NONE", DustYards.NONE, -1);
        Due.is("==== 1 BAD", DustYards.BAD, -2);
        Due.is("==== 1 STATE", DustYards.STATE, -3);
        Due.is("==== 1 FULL", DustYards.FULL, -4);
        Due.is("==== 1 NO", DustYards.NO, -4611686018427387904L);
    }

    private static void aNewObjectIsEmpty() {
        DustYards x = new DustYards();
        Due.is("1 DAY 0", x.count(0), 0);
        Due.is("1 KNOWN in DAY 0", x.priceOf(0, 399, 0), 0);
        Due.is("1 KNOWN in no later one", x.priceOf(0, 399, 1), BAD);
        Due.is("1 no carts", x.cartTold(0, 0), BAD);
        Due.is("1 the first cart", x.cart(0, 0, 0, 1, 0, 0), 0);
        for (int sheet = 0; sheet < 4; sheet++) {
            Due.is("==== 6 missing at first", x.cell(sheet, 0, 0), -11);
        }
        for (int heap = 0; heap < 5; heap++) {
            Due.is("1 nothing lies", x.lies(heap), heap == 0 ? 1 : 0);
        }
        Due.is("3 TEXT 0 is one of six", x.count(3), 1);
        Due.is("13 TEXT 0 has its number", Due.text(x, "pay 1;fine 1;find 1;"), 1);
    }

    private static void passTo(DustYards x, int day) {
        for (int i = 0; i <= day / 60; i++) {
            x.pass(Math.min(60, day - x.count(0)));
        }
        Due.is("2 DAY", x.count(0), day);
    }

    private static void dayGoesTo399() {
        DustYards x = new DustYards();
        passTo(x, 398);
        Due.is("2 above 399 by one", x.pass(2), FULL);
        Due.is("2 DAY stays", x.count(0), 398);
        Due.is("2 to 399", x.pass(1), 399);
        Due.is("2 behind 399", x.pass(1), FULL);
        Due.is("2 no DAYS, ahead of FULL", x.pass(0), BAD);
        Due.is("2 too many, ahead of FULL", x.pass(61), BAD);
        Due.is("2 DAY stays 399", x.count(0), 399);
        Due.is("3 a cart of the last DAY", x.cartTold(x.cart(0, 0, 0, 1, 0, 0), 11), 399);
        Due.is("17 OWED for the last DAY", x.owed(0, 399, 399), 2);
        Due.is("17 not for the one ahead", x.owed(0, 0, 398), 0);
        Due.is("11 KNOWN in the last DAY", x.priceOf(0, 399, 399), 0);
        Due.is("11 KNOWN in one behind", x.priceOf(0, 399, 400), BAD);
    }

    private static void sixtyDaysUpTo399() {
        DustYards x = new DustYards();
        passTo(x, 340);
        Due.is("2 60 DAYS to 400", x.pass(60), FULL);
        Due.is("2 59 DAYS to 399", x.pass(59), 399);
        DustYards y = new DustYards();
        passTo(y, 339);
        Due.is("2 60 DAYS to 399", y.pass(60), 399);
    }

    private static void waterFrom0To90() {
        DustYards x = new DustYards();
        x.cart(0, 0, 0, 9999, 0, 0);
        Due.is("==== 1 no WATER", x.cartTold(0, 4), 9999);
        x.cart(0, 0, 0, 9999, 90, 0);
        Due.is("==== 1 the most WATER", x.cartTold(1, 4), 1000);
        Due.is("==== 1 WEIGHT is with WATER", x.cartTold(1, 3), 9999);
        Due.is("3 91 hundredths", x.cart(0, 0, 0, 9999, 91, 0), BAD);
        Due.is("3 below none", x.cart(0, 0, 0, 9999, -1, 0), BAD);
        Due.is("3 they did not come", x.lies(0), 10999);
    }

    private static void waterIsCut() {
        DustYards x = new DustYards();
        x.cart(0, 0, 0, 1, 90, 0);
        Due.is("==== 1 of one pound no WATER is left to take", x.cartTold(0, 4), 1);
        x.cart(0, 0, 0, 100, 1, 0);
        Due.is("==== 1 one pound of WATER", x.cartTold(1, 4), 99);
        x.cart(0, 0, 0, 99, 1, 0);
        Due.is("==== 1 less than a pound of WATER", x.cartTold(2, 4), 99);
        x.cart(0, 0, 0, 199, 1, 0);
        Due.is("==== 1 cut, not rounded", x.cartTold(3, 4), 198);
    }

    private static void sortsOfOnePound() {
        DustYards x = new DustYards();
        for (int kind = 0; kind < 6; kind++) {
            x.cart(kind, 0, kind % 5, 1, 0, 0);
            for (int sort = 5; sort <= 8; sort++) {
                Due.is("4 of one pound all is cut, kind " + kind, x.cartTold(kind, sort), 0);
            }
            Due.is("4 one pound is WASTE, kind " + kind, x.cartTold(kind, 9), 1);
        }
        x.cart(4, 0, 0, 10, 0, 0);
        Due.is("4 a SLOP of ten pounds has no WASTE", x.cartTold(6, 9), 0);
        x.cart(4, 0, 0, 19, 0, 0);
        Due.is("4 of 19 what is cut", x.cartTold(7, 9), 19 - 1 - 13 - 3);
        x.cart(CINDER, 0, 0, 9999, 0, 0);
        Due.is("4 BREEZE of the greatest CINDER", x.cartTold(8, 5), 6999);
        Due.is("4 BONES of a CINDER", x.cartTold(8, 7), 0);
        Due.is("4 WASTE of the greatest CINDER", x.cartTold(8, 9), 9999 - 6999 - 1999 - 299);
    }

    private static void shortByEyeFrom0() {
        DustYards x = new DustYards();
        x.cart(0, 0, 0, 1, 0, 0);
        Due.is("==== 1 BY EYE 0", x.cartTold(0, 10), 0);
        x.cart(0, 0, 0, 1, 0, 1);
        Due.is("==== 1 WEIGHT is BY EYE", x.cartTold(1, 10), 0);
        x.cart(0, 0, 0, 1, 0, 2);
        Due.is("==== 1 one below, nothing by hundredths", x.cartTold(2, 10), 1);
        x.cart(0, 0, 0, 1, 0, 9999);
        Due.is("==== 1 the most", x.cartTold(3, 10), 9998);
        x.cart(0, 0, 0, 9999, 0, 0);
        Due.is("==== 1 far above BY EYE", x.cartTold(4, 10), 0);
        x.cart(0, 0, 0, 9999, 0, 9999);
        Due.is("==== 1 the greatest, like ones", x.cartTold(5, 10), 0);
    }

    private static void shortIsCut() {
        DustYards x = new DustYards();
        x.cart(0, 0, 0, 17, 0, 19);
        Due.is("==== 1 two below 19: 1 by hundredths, cut", x.cartTold(0, 10), 2);
        x.cart(0, 0, 0, 18, 0, 20);
        Due.is("==== 1 two below 20: 2 by hundredths", x.cartTold(1, 10), 0);
        x.cart(0, 0, 0, 17, 0, 20);
        Due.is("==== 1 three below 20", x.cartTold(2, 10), 3);
        x.cart(1, 0, 0, 18, 0, 19);
        Due.is("==== 1 an ASH, one below 19: 0 by hundredths", x.cartTold(3, 10), 1);
        x.cart(1, 0, 0, 19, 0, 20);
        Due.is("==== 1 an ASH, one below 20", x.cartTold(4, 10), 0);
        x.cart(4, 0, 0, 7, 0, 10);
        Due.is("==== 1 a SLOP, three below 10", x.cartTold(5, 10), 0);
        x.cart(4, 0, 0, 6, 0, 9);
        Due.is("==== 1 a SLOP, three below 9", x.cartTold(6, 10), 3);
    }

    private static void shortByAllThatItIsBelow() {
        DustYards x = new DustYards();
        x.cart(0, 0, 0, 899, 0, 1000);
        Due.is("==== 1 not by what is beyond the hundredths", x.cartTold(0, 10), 101);
        x.cart(0, 0, 0, 900, 0, 1000);
        Due.is("==== 1 100 below 1000", x.cartTold(1, 10), 0);
    }

    private static void shortByWeightNotByDry() {
        DustYards x = new DustYards();
        x.cart(0, 0, 0, 1000, 90, 1000);
        Due.is("==== 1 WATER makes none SHORT", x.cartTold(0, 10), 0);
        x.cart(0, 0, 0, 500, 0, 1000);
        x.fire(0, 100);
        Due.is("==== 1 a FIRE makes none SHORT", x.cartTold(0, 10), 0);
        Due.is("==== 1 nor less so", x.cartTold(1, 10), 500);
        x.sift(0, 0);
        Due.is("==== 1 nor is a SIFTED one less so", x.cartTold(1, 10), 500);
    }

    private static void toldOfEachCart() {
        DustYards x = new DustYards();
        int[][] due = new int[40][];
        for (int c = 0; c < 40; c++) {
            int weight = 1000 + 100 * c;
            int dry = weight - weight * c / 100;
            int breeze = dry * new int[] {20, 50, 10, 70, 10, 10}[c % 6] / 100;
            int soil = dry * new int[] {40, 40, 50, 20, 70, 80}[c % 6] / 100;
            int bones = dry * new int[] {5, 5, 10, 0, 20, 5}[c % 6] / 100;
            int rags = dry * new int[] {3, 3, 3, 3, 0, 3}[c % 6] / 100;
            due[c] = new int[] {c % 6, c / 7, c % 5, weight, dry, breeze, soil, bones, rags,
                dry - breeze - soil - bones - rags, 5000 + c, c, 0};
            Due.is("3 its number", x.cart(c % 6, c / 7, c % 5, weight, c, weight + 5000 + c), c);
            x.pass(1);
        }
        for (int c = 0; c < 40; c++) {
            for (int what = 0; what <= 12; what++) {
                Due.is("4 of cart " + c + ", what " + what, x.cartTold(c, what), due[c][what]);
            }
        }
    }

    private static void siftToThePound() {
        DustYards x = new DustYards();
        x.cart(0, 0, 0, 100, 0, 0);
        x.cart(0, 0, 0, 1, 0, 0);
        Due.is("5 one pound less", x.sift(0, 99), 0);
        Due.is("5 nothing came", x.stock(0) + x.stock(1) + x.stock(4), 0);
        Due.is("5 the small one behind stays, too", x.cartTold(1, 12), 0);
        Due.is("5 to the pound", x.sift(0, 100), 1);
        Due.is("5 the small one", x.sift(0, 1), 1);
        Due.is("5 none is left", x.sift(0, 99999), 0);
    }

    private static void siftOfNothing() {
        DustYards x = new DustYards();
        Due.is("5 an empty HEAP", x.sift(4, 0), 0);
        x.cart(0, 0, 4, 1, 0, 0);
        Due.is("5 no pounds", x.sift(4, 0), 0);
        Due.is("5 below none", x.sift(4, -1), BAD);
        Due.is("5 it lies", x.lies(4), 1);
        x.fire(4, 100);
        Due.is("5 nothing is DRY: no pounds take it", x.sift(4, 0), 1);
        Due.is("5 it is SIFTED", x.cartTold(0, 12), 1);
        for (int sort = 0; sort <= 4; sort++) {
            Due.is("5 it brings nothing", x.stock(sort), 0);
        }
    }

    private static void siftTheMostPounds() {
        DustYards x = new DustYards();
        for (int i = 0; i < 11; i++) {
            x.cart(0, 0, 2, 9999, 0, 0);
        }
        Due.is("5 more than may be told", x.sift(2, 100000), BAD);
        Due.is("5 the most", x.sift(2, 99999), 10);
        Due.is("5 the 11th lies", x.lies(2), 9999);
        Due.is("5 and is SIFTED next", x.sift(2, 99999), 1);
    }

    private static void siftStopsAtTheFirst() {
        DustYards x = new DustYards();
        x.cart(0, 0, 1, 50, 0, 0);
        x.cart(0, 0, 0, 60, 0, 0);
        x.cart(0, 0, 1, 70, 0, 0);
        x.cart(0, 0, 1, 10, 0, 0);
        Due.is("5 50, then 70 stops it", x.sift(1, 119), 1);
        Due.is("5 10 would have gone", x.cartTold(3, 12), 0);
        Due.is("5 of another HEAP none", x.cartTold(1, 12), 0);
        Due.is("5 now 70 is the first", x.sift(1, 79), 1);
        Due.is("5 then 10", x.sift(1, 10), 1);
    }

    private static void fireOfNoneAndOfAll() {
        DustYards x = new DustYards();
        Due.is("6 an empty HEAP", x.fire(0, 100), 0);
        x.cart(0, 0, 0, 999, 10, 0);
        Due.is("6 0 hundredths", x.fire(0, 0), 0);
        Due.is("6 nothing BURNT", x.stock(5), 0);
        Due.is("6 -1 hundredths", x.fire(0, -1), BAD);
        Due.is("6 101 hundredths", x.fire(0, 101), BAD);
        Due.is("6 DRY stays", x.cartTold(0, 4), 900);
        Due.is("6 100 hundredths", x.fire(0, 100), 900);
        Due.is("6 nothing lies", x.lies(0), 0);
        Due.is("6 nothing is DRY", x.cartTold(0, 4), 0);
        Due.is("6 nothing is WASTE", x.cartTold(0, 9), 0);
        Due.is("6 WEIGHT stays", x.cartTold(0, 3), 999);
        Due.is("6 it isn't SIFTED", x.cartTold(0, 12), 0);
        Due.is("6 nothing more burns", x.fire(0, 100), 0);
        Due.is("6 all BURNT", x.stock(5), 900);
    }

    private static void fireIsCut() {
        DustYards x = new DustYards();
        x.cart(0, 0, 0, 1, 0, 0);
        x.cart(0, 0, 0, 99, 0, 0);
        x.cart(0, 0, 0, 100, 0, 0);
        x.cart(0, 0, 0, 199, 0, 0);
        Due.is("6 of each cart by itself, cut", x.fire(0, 1), 0 + 0 + 1 + 1);
        Due.is("6 one pound", x.cartTold(0, 4), 1);
        Due.is("6 99 pounds", x.cartTold(1, 4), 99);
        Due.is("6 100 pounds", x.cartTold(2, 4), 99);
        Due.is("6 199 pounds", x.cartTold(3, 4), 198);
        Due.is("6 of one pound 99 hundredths", x.fire(0, 99), 0 + 98 + 98 + 196);
        Due.is("6 it is there yet", x.cartTold(0, 4), 1);
    }

    private static void firesOneBehindTheOther() {
        DustYards x = new DustYards();
        x.cart(CINDER, 0, 0, 1000, 0, 0);
        x.fire(0, 50);
        x.fire(0, 50);
        Due.is("==== 2 not of what was DRY at first", x.cartTold(0, 4), 250);
        Due.is("==== 2 BREEZE by what is left", x.cartTold(0, 5), 175);
        Due.is("==== 2 SOIL by what is left", x.cartTold(0, 6), 50);
        Due.is("==== 2 RAGS by what is left", x.cartTold(0, 8), 7);
        Due.is("==== 2 WASTE by what is left", x.cartTold(0, 9), 18);
        x.sift(0, 250);
        Due.is("5 as much comes to STOCK", x.stock(0), 175);
        Due.is("5 as much WASTE", x.stock(4), 18);
    }

    private static void fireComesOnceOnly() {
        DustYards x = new DustYards();
        x.cart(0, 0, 0, 1000, 0, 0);
        x.fire(0, 50);
        x.cart(0, 0, 0, 1000, 0, 0);
        Due.is("==== 2 a cart behind a FIRE has all", x.cartTold(1, 4), 1000);
        x.sift(0, 500);
        Due.is("==== 2 a SIFTED one is on no HEAP", x.fire(0, 50), 500);
        Due.is("==== 2 it has what it had", x.cartTold(0, 4), 500);
        Due.is("8 STOCK doesn't burn", x.stock(0), 100);
    }

    private static void aHeapOfFortyCarts() {
        DustYards x = new DustYards();
        for (int i = 0; i < 40; i++) {
            Due.is("3 number", x.cart(CINDER, 5, 4, 9999, 0, 0), i);
        }
        Due.is("3 a 41st", x.cart(CINDER, 5, 4, 9999, 0, 0), FULL);
        Due.is("4 the last one", x.cartTold(39, 0), CINDER);
        Due.is("4 none behind it", x.cartTold(40, 0), BAD);
        Due.is("7 all lie", x.lies(4), 399960);
        Due.is("6 half of each", x.fire(4, 50), 40 * 4999);
        Due.is("5 as many as go", x.sift(4, 99999), 19);
        Due.is("5 the next", x.sift(4, 99999), 19);
        Due.is("5 the rest", x.sift(4, 99999), 2);
        Due.is("8 BREEZE of all", x.stock(0), 40 * 3500);
        Due.is("3 FULL, though none lies", x.cart(0, 0, 0, 1, 0, 0), FULL);
    }

    private static void stockAgreesToThePound() {
        DustYards x = new DustYards();
        int all = 0;
        for (int i = 0; i < 30; i++) {
            int weight = 1 + 331 * i;
            int water = 3 * i;
            x.cart(i % 6, 0, 0, weight, water, 0);
            all += weight - weight * water / 100;
        }
        Due.is("7 all that came", x.lies(0), all);
        x.fire(0, 7);
        x.sift(0, 40000);
        int sum = x.lies(0);
        for (int i = 0; i <= 5; i++) {
            sum += x.stock(i);
        }
        Due.is("8 HEAP, STOCK, WASTE and BURNT agree to the pound", sum, all);
    }

    private static void sellTheLastPound() {
        DustYards x = new DustYards();
        x.cart(0, 0, 0, 100, 0, 0);
        x.sift(0, 100);
        x.price(3, 0, 100);
        Due.is("9 RAGS are three", x.sell(3, 4), STATE);
        Due.is("9 they stay", x.stock(3), 3);
        Due.is("9 all three", x.sell(3, 3), 3);
        Due.is("9 none is left", x.stock(3), 0);
        Due.is("9 not one more", x.sell(3, 1), STATE);
        Due.is("9 none at all", x.sell(3, 0), BAD);
        Due.is("9 pence", x.count(12), 3);
        Due.is("9 WASTE is not sold", x.sell(4, 1), BAD);
    }

    private static void sellTheMostPounds() {
        DustYards x = new DustYards();
        for (int i = 0; i < 40; i++) {
            x.cart(CINDER, 0, i % 5, 9999, 0, 0);
        }
        for (int heap = 0; heap < 5; heap++) {
            Due.is("5 a HEAP", x.sift(heap, 99999), 8);
        }
        x.price(0, 0, 999);
        Due.is("9 BREEZE enough", x.stock(0), 279960);
        Due.is("9 100000 pounds, though there are so many", x.sell(0, 100000), BAD);
        Due.is("9 99999 pounds", x.sell(0, 99999), 998990);
        Due.is("9 once more", x.sell(0, 99999), 998990);
        Due.is("9 there are fewer now", x.sell(0, 99999), STATE);
        Due.is("9 the rest", x.sell(0, 79962), 798820);
        Due.is("33 pence for all", x.count(12), 998990 + 998990 + 798820);
    }

    private static void sellIsCut() {
        DustYards x = new DustYards();
        x.cart(0, 0, 0, 9999, 0, 0);
        x.sift(0, 9999);
        x.price(0, 0, 1);
        Due.is("==== 3 99 pounds at a penny", x.sell(0, 99), 0);
        Due.is("==== 3 they are gone", x.stock(0), 1900);
        Due.is("==== 3 100 pounds at a penny", x.sell(0, 100), 1);
        Due.is("==== 3 199 pounds at a penny", x.sell(0, 199), 1);
        Due.is("==== 3 no pence of a SORT without PRICE", x.sell(1, 3999), 0);
        Due.is("33 each cut by itself", x.count(12), 2);
    }

    private static void sellByWhatIsKnownNow() {
        DustYards x = new DustYards();
        x.cart(0, 0, 0, 9999, 0, 0);
        x.sift(0, 9999);
        x.price(0, 1, 200);
        Due.is("9 a PRICE for the next DAY", x.sell(0, 100), 0);
        x.pass(1);
        Due.is("9 in its DAY", x.sell(0, 100), 200);
        x.price(0, 0, 300);
        Due.is("9 one told later, of an earlier DAY", x.sell(0, 100), 200);
        x.price(0, 1, 400);
        Due.is("9 one told later, of DAY", x.sell(0, 100), 400);
        x.price(0, 1, 0);
        Due.is("9 one of no pence", x.sell(0, 100), 0);
    }
}
