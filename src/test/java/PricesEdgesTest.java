/** Promises 10, 11, 14 to 20: prices, contracts, what is owed, finds; each sentence that names an edge. */
public final class PricesEdgesTest {
    private static final int BAD = DustYards.BAD, FULL = DustYards.FULL;
    private static final long NO = DustYards.NO;

    private PricesEdgesTest() {
    }

    public static void main(String[] args) {
        fortyPrices();
        pricesFromFirstToLastDay();
        knownFromTheDayOn();
        knownUpToDay();
        theOneToldLast();
        theNearestAhead();
        nonePence();
        twentyContracts();
        contractFromFirstToLastDay();
        contractToldLast();
        twentyContractsOfOneParish();
        contractOfTextsThatAre();
        saysOfCartsThatAre();
        saysTextZero();
        saysByItsOwnDay();
        saysMissedOfItsDay();
        saysThePriceKnownNow();
        owedFromTo();
        eachFineByItself();
        owedDoesNotWrap();
        twentyFinds();
        whoseModulo3();
        whoseByTheContractOfNow();
        findsOfEach();
        Due.end();
    }

    private static void fortyPrices() {
        DustYards x = new DustYards();
        for (int i = 1; i <= 40; i++) {
            Due.is("10 how many", x.price(0, 200, i), i);
        }
        Due.is("10 a 41st", x.price(0, 200, 41), FULL);
        Due.is("10 of another SORT, too", x.price(1, 0, 0), FULL);
        Due.is("10 BAD ahead of FULL, SORT", x.price(4, 0, 0), BAD);
        Due.is("10 BAD ahead of FULL, DAY", x.price(0, 400, 0), BAD);
        Due.is("10 BAD ahead of FULL, pence", x.price(0, 0, -1), BAD);
        Due.is("10 the 41st isn't KNOWN", x.priceOf(0, 200, 0), 40);
        x.pass(1);
        Due.is("10 FULL in another DAY, too", x.price(0, 1, 1), FULL);
        Due.is("10 40 of them", x.count(2), 40);
    }

    private static void pricesFromFirstToLastDay() {
        DustYards x = new DustYards();
        for (int sort = 0; sort < 4; sort++) {
            Due.is("10 for DAY 399, SORT " + sort, x.price(sort, 399, 999 - sort), 2 * sort + 1);
            Due.is("11 none is ahead of it", x.priceOf(sort, 398, 0), 0);
            Due.is("11 in its DAY", x.priceOf(sort, 399, 0), 999 - sort);
            Due.is("10 for DAY 0", x.price(sort, 0, 1 + sort), 2 * sort + 2);
            Due.is("11 DAY 0", x.priceOf(sort, 0, 0), 1 + sort);
            Due.is("11 up to DAY 398", x.priceOf(sort, 398, 0), 1 + sort);
            Due.is("11 not for 399", x.priceOf(sort, 399, 0), 999 - sort);
        }
    }

    private static void knownFromTheDayOn() {
        DustYards x = new DustYards();
        x.pass(5);
        x.price(2, 0, 70);
        Due.is("==== 3 in the DAY in which it was told", x.priceOf(2, 0, 5), 70);
        Due.is("==== 3 not in the one ahead", x.priceOf(2, 0, 4), 0);
        Due.is("==== 3 not in DAY 0, for which it is", x.priceOf(2, 0, 0), 0);
        x.pass(60);
        Due.is("==== 3 from then on", x.priceOf(2, 0, 65), 70);
        Due.is("==== 3 nor ahead of it then", x.priceOf(2, 0, 4), 0);
    }

    private static void knownUpToDay() {
        DustYards x = new DustYards();
        x.pass(3);
        Due.is("11 KNOWN in DAY", x.priceOf(0, 399, 3), 0);
        Due.is("11 KNOWN in the next", x.priceOf(0, 399, 4), BAD);
        Due.is("11 KNOWN ahead of DAY 0", x.priceOf(0, 399, -1), BAD);
        x.pass(1);
        Due.is("11 KNOWN in DAY then", x.priceOf(0, 399, 4), 0);
    }

    private static void theOneToldLast() {
        DustYards x = new DustYards();
        x.price(1, 7, 500);
        x.price(1, 7, 400);
        Due.is("==== 3 of two of one DAY, not the greater", x.priceOf(1, 7, 0), 400);
        x.pass(1);
        x.price(1, 7, 600);
        Due.is("==== 3 told in the next DAY", x.priceOf(1, 7, 1), 600);
        Due.is("==== 3 as KNOWN ahead of that", x.priceOf(1, 7, 0), 400);
        Due.is("==== 3 told last of the nearest DAY ahead, too", x.priceOf(1, 8, 0), 400);
        Due.is("==== 3 as KNOWN in DAY", x.priceOf(1, 8, 1), 600);
    }

    private static void theNearestAhead() {
        DustYards x = new DustYards();
        x.price(3, 10, 100);
        x.price(3, 12, 120);
        x.price(3, 11, 110);
        x.price(0, 13, 999);
        Due.is("==== 3 not one behind it", x.priceOf(3, 9, 0), 0);
        Due.is("==== 3 DAY 10", x.priceOf(3, 10, 0), 100);
        Due.is("==== 3 DAY 11, told last", x.priceOf(3, 11, 0), 110);
        Due.is("==== 3 DAY 12", x.priceOf(3, 12, 0), 120);
        Due.is("==== 3 the nearest, not the one told last", x.priceOf(3, 13, 0), 120);
        Due.is("==== 3 nor one of another SORT", x.priceOf(3, 399, 0), 120);
        x.pass(1);
        x.price(3, 20, 200);
        Due.is("==== 3 one that wasn't KNOWN is none", x.priceOf(3, 25, 0), 120);
        Due.is("==== 3 in DAY it is", x.priceOf(3, 25, 1), 200);
    }

    private static void nonePence() {
        DustYards x = new DustYards();
        x.price(0, 3, 50);
        x.price(0, 4, 0);
        Due.is("==== 3 a PRICE of 0 is one", x.priceOf(0, 4, 0), 0);
        Due.is("==== 3 behind it, too", x.priceOf(0, 5, 0), 0);
        Due.is("10 of 999", x.price(0, 4, 999), 3);
        Due.is("10 of 1000", x.price(0, 4, 1000), BAD);
        Due.is("10 of -1", x.price(0, 4, -1), BAD);
        Due.is("10 it stays", x.priceOf(0, 4, 0), 999);
    }

    private static void twentyContracts() {
        DustYards x = new DustYards();
        Due.text(x, "pay 1;fine 1;find 1;");
        for (int i = 1; i <= 20; i++) {
            Due.is("14 how many", x.contract(0, 20 - i, 0), i);
        }
        Due.is("14 a 21st", x.contract(0, 0, 1), FULL);
        Due.is("14 of another PARISH, too", x.contract(5, 399, 1), FULL);
        Due.is("14 BAD ahead of FULL, PARISH", x.contract(6, 0, 1), BAD);
        Due.is("14 BAD ahead of FULL, DAY", x.contract(0, 400, 1), BAD);
        Due.is("14 BAD ahead of FULL, TEXT", x.contract(0, 0, 2), BAD);
        Due.is("14 the 21st does not bind", x.contractOf(0, 0), 0);
        Due.is("14 20 of them", x.count(5), 20);
    }

    private static void contractFromFirstToLastDay() {
        DustYards x = new DustYards();
        Due.text(x, "pay 1;fine 1;find 1;");
        Due.text(x, "pay 2;fine 2;find 2;");
        for (int parish = 0; parish < 6; parish++) {
            Due.is("15 without any", x.contractOf(parish, 399), 0);
            x.contract(parish, 399, 1);
            Due.is("15 ahead of its DAY", x.contractOf(parish, 398), 0);
            Due.is("15 in its DAY", x.contractOf(parish, 399), 1);
            x.contract(parish, 0, 2);
            Due.is("15 from DAY 0", x.contractOf(parish, 0), 2);
            Due.is("15 till the next one", x.contractOf(parish, 398), 2);
            Due.is("15 the next one stays", x.contractOf(parish, 399), 1);
        }
    }

    private static void contractToldLast() {
        DustYards x = new DustYards();
        for (int i = 1; i <= 5; i++) {
            Due.text(x, "pay 1;fine 1;find 1;");
        }
        x.contract(3, 50, 5);
        x.contract(3, 50, 2);
        Due.is("==== 3 of two from one DAY on, not the greater TEXT", x.contractOf(3, 50), 2);
        x.contract(3, 49, 4);
        Due.is("==== 3 a later DAY, though told ahead", x.contractOf(3, 50), 2);
        Due.is("==== 3 the earlier DAY", x.contractOf(3, 49), 4);
        x.pass(60);
        x.contract(3, 50, 0);
        Due.is("==== 3 told in a later DAY, from an earlier one on", x.contractOf(3, 50), 0);
    }

    private static void twentyContractsOfOneParish() {
        DustYards x = new DustYards();
        for (int i = 1; i <= 5; i++) {
            Due.text(x, "pay 1;fine 1;find 1;");
        }
        // From later DAYS first: the one that is asked for may stand anywhere among them.
        for (int i = 20; i >= 1; i--) {
            x.contract(1, 10 * i, i % 5 + 1);
        }
        Due.is("15 ahead of the first DAY", x.contractOf(1, 9), 0);
        Due.is("15 of another PARISH", x.contractOf(2, 399), 0);
        for (int i = 1; i <= 20; i++) {
            Due.is("15 from DAY " + 10 * i, x.contractOf(1, 10 * i), i % 5 + 1);
            Due.is("15 till the next one", x.contractOf(1, 10 * i + 9), i % 5 + 1);
        }
    }

    private static void contractOfTextsThatAre() {
        DustYards x = new DustYards();
        Due.is("14 TEXT 0 is there", x.contract(0, 0, 0), 1);
        for (int text = 1; text <= 5; text++) {
            Due.is("14 TEXT " + text + " isn't", x.contract(0, 0, text), BAD);
            Due.text(x, "pay " + text);
            Due.is("14 nor by a FAULT", x.contract(0, 0, text), BAD);
            Due.text(x, "pay 1;fine 1;find 1;");
            Due.is("14 now it is", x.contract(0, 0, text), text + 1);
            Due.is("15 it binds", x.contractOf(0, 0), text);
        }
        Due.is("14 there is no TEXT 6", x.contract(0, 0, 6), BAD);
        Due.is("14 nor one below 0", x.contract(0, 0, -1), BAD);
        Due.is("14 six of them", x.count(5), 6);
    }

    private static void saysOfCartsThatAre() {
        DustYards x = new DustYards();
        Due.is("16 no carts", x.says(0, 0), NO);
        for (int i = 0; i < 40; i++) {
            x.cart(0, 0, 0, i + 1, 0, 0);
            Due.is("16 the last cart", x.says(i, 0), 2 - i);
            Due.is("16 none behind it", x.says(i + 1, 0), NO);
        }
        Due.is("16 cart -1", x.says(-1, 2), NO);
        Due.is("16 part 2", x.says(39, 2), 1);
        Due.is("16 part 3", x.says(39, 3), NO);
        Due.is("16 part -1", x.says(0, -1), NO);
    }

    private static void saysTextZero() {
        DustYards x = new DustYards();
        x.cart(0, 0, 0, 1, 0, 0);
        x.cart(0, 0, 0, 3, 0, 0);
        x.cart(0, 0, 0, 9999, 0, 0);
        Due.is("==== 3 pay above 0", x.says(0, 0), 2);
        Due.is("==== 3 pay 0", x.says(1, 0), 0);
        Due.is("==== 3 pay below 0", x.says(2, 0), -9996);
        Due.is("==== 3 none MISSED", x.says(0, 1), 0);
        for (int d = 0; d < 12; d++) {
            x.door(0, 1, 0, 0);
            x.miss(d);
            Due.is("==== 3 fine by MISSED", x.says(0, 1), 5 * d + 5);
        }
        Due.is("==== 3 find", x.says(0, 2), 1);
    }

    private static void saysByItsOwnDay() {
        DustYards x = new DustYards();
        Due.text(x, "pay 100+day;fine 0;find 0;");
        x.pass(9);
        x.cart(0, 4, 0, 8, 0, 0);
        x.pass(1);
        x.cart(0, 4, 0, 8, 0, 0);
        x.contract(4, 10, 1);
        Due.is("16 the DAY ahead of the CONTRACT", x.says(0, 0), -5);
        Due.is("16 the first DAY of it", x.says(1, 0), 110);
        x.pass(60);
        Due.is("16 not by DAY", x.says(0, 0), -5);
        Due.is("16 day is that in which it came", x.says(1, 0), 110);
        x.contract(4, 9, 1);
        Due.is("16 by one that was told behind", x.says(0, 0), 109);
    }

    private static void saysMissedOfItsDay() {
        DustYards x = new DustYards();
        Due.text(x, "pay missed;fine missed;find missed;");
        x.contract(2, 0, 1);
        x.door(2, 1, 0, 0);
        x.door(2, 1, 0, 0);
        x.door(3, 1, 0, 0);
        x.door(2, 1, 1, 0);
        x.miss(0);
        x.miss(2);
        x.cart(0, 2, 0, 1, 0, 0);
        Due.is("16 of that PARISH alone", x.says(0, 0), 1);
        x.miss(1);
        Due.is("16 also of one told behind the cart", x.says(0, 1), 2);
        x.pass(1);
        x.cart(0, 2, 0, 1, 0, 0);
        Due.is("16 none of that DAY", x.says(1, 0), 0);
        x.miss(3);
        Due.is("16 one of that DAY", x.says(1, 2), 1);
        Due.is("16 the other DAY has its own", x.says(0, 2), 2);
        x.pass(5);
        x.miss(0);
        Due.is("16 a week behind is another DAY", x.says(0, 2), 2);
    }

    private static void saysThePriceKnownNow() {
        DustYards x = new DustYards();
        Due.text(x, "pay price;fine price;find price;");
        x.contract(0, 0, 1);
        x.pass(10);
        x.cart(0, 0, 0, 1, 0, 0);
        Due.is("16 no PRICE", x.says(0, 0), 0);
        x.price(1, 10, 111);
        Due.is("16 none of SOIL", x.says(0, 0), 0);
        x.price(0, 11, 222);
        Due.is("16 none for a DAY behind it", x.says(0, 0), 0);
        x.pass(5);
        x.price(0, 9, 333);
        Due.is("16 told behind it, for a DAY ahead of it", x.says(0, 1), 333);
        x.price(0, 10, 444);
        Due.is("16 told behind it, for its DAY", x.says(0, 2), 444);
        x.price(0, 15, 555);
        Due.is("16 not for DAY", x.says(0, 0), 444);
    }

    private static void owedFromTo() {
        DustYards x = new DustYards();
        Due.is("17 without carts", x.owed(5, 0, 399), 0);
        x.pass(5);
        x.cart(0, 5, 0, 13, 0, 0);
        x.pass(1);
        x.cart(0, 5, 0, 103, 0, 0);
        x.cart(0, 4, 0, 1003, 0, 0);
        Due.is("17 ahead of them", x.owed(5, 0, 4), 0);
        Due.is("17 to the first", x.owed(5, 0, 5), -10);
        Due.is("17 the first alone", x.owed(5, 5, 5), -10);
        Due.is("17 both", x.owed(5, 5, 6), -110);
        Due.is("17 from the second on", x.owed(5, 6, 399), -100);
        Due.is("17 behind them", x.owed(5, 7, 399), 0);
        Due.is("17 to ahead of from by one", x.owed(5, 6, 5), NO);
        Due.is("17 from below 0", x.owed(5, -1, 5), NO);
        Due.is("17 to 400", x.owed(5, 5, 400), NO);
        Due.is("17 both 400", x.owed(5, 400, 400), NO);
        Due.is("17 both below 0", x.owed(5, -1, -1), NO);
    }

    private static void eachFineByItself() {
        DustYards x = new DustYards();
        Due.text(x, "pay 0;fine weight-10;find 0;");
        x.contract(0, 0, 1);
        x.cart(0, 0, 0, 1, 0, 0);
        Due.is("==== 3 a fine below 0 is none", x.owed(0, 0, 0), 0);
        x.cart(0, 0, 0, 10, 0, 0);
        Due.is("==== 3 a fine of 0", x.owed(0, 0, 0), 0);
        x.cart(0, 0, 0, 11, 0, 0);
        Due.is("==== 3 it takes nothing off another one", x.owed(0, 0, 0), -1);
        Due.is("16 says has it below 0", x.says(0, 1), -9);
    }

    private static void owedDoesNotWrap() {
        DustYards x = new DustYards();
        String max = "2048*1024*1024-1";
        Due.text(x, "pay " + max + ";fine 0;find 0;");
        Due.text(x, "pay 0;fine " + max + ";find 0;");
        Due.text(x, "pay 2048*1024*1024;fine 2048*1024*1024;find 0;");
        for (int i = 0; i < 40; i++) {
            x.cart(0, 0, 0, 1, 0, 0);
        }
        x.contract(0, 0, 1);
        Due.is("17 pay of 40 carts together", x.owed(0, 0, 0), 40L * Integer.MAX_VALUE);
        x.contract(0, 0, 2);
        Due.is("17 fine of 40 carts together", x.owed(0, 0, 0), -40L * Integer.MAX_VALUE);
        x.contract(0, 0, 3);
        Due.is("17 the least pay, the least fine", x.owed(0, 0, 0), 40L * Integer.MIN_VALUE);
    }

    private static void twentyFinds() {
        DustYards x = new DustYards();
        Due.is("18 no cart to find in", x.find(0, 0, 0), BAD);
        x.cart(0, 0, 0, 1, 0, 0);
        Due.is("18 a cart behind the last", x.find(1, 0, 0), BAD);
        for (int i = 0; i < 20; i++) {
            Due.is("19 none yet", x.whose(i), BAD);
            Due.is("18 its number", x.find(0, i % 10, 9999), i);
        }
        Due.is("18 a 21st", x.find(0, 0, 0), FULL);
        Due.is("18 BAD ahead of FULL, cart", x.find(1, 0, 0), BAD);
        Due.is("18 BAD ahead of FULL, HAND", x.find(0, 10, 0), BAD);
        Due.is("18 BAD ahead of FULL, worth", x.find(0, 0, 10000), BAD);
        Due.is("19 the last one", x.whose(19), 1);
        Due.is("19 one behind it", x.whose(20), BAD);
        Due.is("20 the most that can be found", x.finds(10), 20 * 9999);
    }

    private static void whoseModulo3() {
        String min = "2048*1024*1024";
        String[] find = {"0", "1", "2", "3", "-1", "-2", "-3", "-4", min, min + "-1", min + "+1"};
        int[] due = {0, 1, 2, 0, 2, 1, 0, 2, 1, 1, 2};
        for (int i = 0; i < find.length; i++) {
            DustYards x = new DustYards();
            Due.text(x, "pay 0;fine 0;find " + find[i] + ";");
            x.contract(0, 0, 1);
            x.cart(0, 0, 0, 1, 0, 0);
            x.find(0, 7, 5);
            Due.is("==== 3 modulo 3, from 0, of " + find[i], x.whose(0), due[i]);
            Due.is("20 the HAND's", x.finds(7), due[i] == 0 ? 5 : 0);
            Due.is("20 the yard's", x.finds(10), due[i] == 1 ? 5 : 0);
            Due.is("20 the PARISH's", x.finds(11), due[i] == 2 ? 5 : 0);
        }
    }

    private static void whoseByTheContractOfNow() {
        DustYards x = new DustYards();
        Due.text(x, "pay 0;fine 0;find 2;");
        Due.text(x, "pay 0;fine 0;find price;");
        x.cart(0, 3, 0, 1, 0, 0);
        x.find(0, 0, 8);
        Due.is("19 TEXT 0: the yard's", x.whose(0), 1);
        x.contract(3, 0, 1);
        Due.is("19 a CONTRACT told behind it", x.whose(0), 2);
        Due.is("20 the PARISH's then", x.finds(14), 8);
        x.contract(3, 0, 2);
        Due.is("19 no PRICE: the HAND's", x.whose(0), 0);
        x.price(0, 0, 4);
        Due.is("19 by PRICE as KNOWN now", x.whose(0), 1);
    }

    private static void findsOfEach() {
        DustYards x = new DustYards();
        Due.text(x, "pay 0;fine 0;find 0;");
        Due.text(x, "pay 0;fine 0;find 2;");
        for (int parish = 0; parish < 6; parish++) {
            x.cart(0, parish, 0, 1, 0, 0);
        }
        for (int who = 0; who < 17; who++) {
            Due.is("20 nothing was found", x.finds(who), 0);
        }
        for (int i = 0; i < 10; i++) {
            x.find(0, i, 100 + i);
        }
        for (int parish = 1; parish < 6; parish++) {
            x.find(parish, 0, 200 + parish);
            x.contract(parish, 0, 2);
        }
        x.contract(0, 0, 1);
        for (int hand = 0; hand < 10; hand++) {
            Due.is("20 HAND " + hand, x.finds(hand), 100 + hand);
        }
        Due.is("20 nothing is the yard's", x.finds(10), 0);
        for (int parish = 0; parish < 6; parish++) {
            Due.is("20 PARISH " + parish, x.finds(11 + parish), parish == 0 ? 0 : 200 + parish);
        }
        Due.is("20 who 17", x.finds(17), NO);
        Due.is("20 who -1", x.finds(-1), NO);
    }
}
