/** Promises 21 to 25: doors, what was missed, rounds, rows, bids; each sentence that names an edge. */
public final class DoorsEdgesTest {
    private static final int NONE = DustYards.NONE, BAD = DustYards.BAD;
    private static final int STATE = DustYards.STATE, FULL = DustYards.FULL;
    private static final long NO = DustYards.NO;

    private DoorsEdgesTest() {
    }

    public static void main(String[] args) {
        twelveDoors();
        missedInItsWeekday();
        missedOnceADay();
        missedOfAParish();
        missedUpTo399();
        sixtyMissed();
        roundsOfNoDoors();
        roundsOfEightDoors();
        roundsToThePound();
        roundsToTheYard();
        someDoorCantBeServed();
        theFewestCarts();
        roundsOfItsOwnDoors();
        fiveRows();
        bidWithoutRows();
        bidWithoutCarts();
        bidFromTo();
        bidEachCut();
        bidAsItCame();
        bidOfTheLeastRow();
        theBidFromTo();
        theGreatestBid();
        Due.end();
    }

    private static void twelveDoors() {
        DustYards x = new DustYards();
        for (int d = 0; d < 12; d++) {
            Due.is("22 no such DOOR yet", x.miss(d), BAD);
            Due.is("21 its number", x.door(d % 6, 999, 0, 9999), d);
        }
        Due.is("21 a 13th", x.door(0, 1, 0, 0), FULL);
        Due.is("21 of another weekday, too", x.door(0, 1, 5, 0), FULL);
        Due.is("21 BAD ahead of FULL, PARISH", x.door(6, 1, 0, 0), BAD);
        Due.is("21 BAD ahead of FULL, pounds", x.door(0, 0, 0, 0), BAD);
        Due.is("21 BAD ahead of FULL, weekday", x.door(0, 1, 6, 0), BAD);
        Due.is("21 BAD ahead of FULL, yards", x.door(0, 1, 0, 10000), BAD);
        Due.is("22 the last one", x.miss(11), 1);
        Due.is("22 one behind it", x.miss(12), BAD);
        Due.is("21 twelve", x.count(7), 12);
    }

    private static void missedInItsWeekday() {
        for (int weekday = 0; weekday < 6; weekday++) {
            DustYards x = new DustYards();
            x.door(0, 1, weekday, 0);
            for (int day = 0; day <= 13; day++) {
                Due.is("22 weekday " + weekday + ", DAY " + day, x.miss(0), day % 6 == weekday ? 1 : STATE);
                x.pass(1);
            }
        }
    }

    private static void missedOnceADay() {
        DustYards x = new DustYards();
        x.door(0, 1, 0, 0);
        x.door(0, 1, 0, 0);
        Due.is("22 told", x.miss(0), 1);
        Due.is("22 it was told", x.miss(0), STATE);
        Due.is("22 another one wasn't", x.miss(1), 2);
        Due.is("22 told once", x.count(8), 2);
        x.pass(6);
        Due.is("22 in the next week again", x.miss(0), 1);
        Due.is("22 once, too", x.miss(0), STATE);
        x.pass(60);
        Due.is("22 ten weeks behind", x.miss(0), 1);
        Due.is("22 four of them", x.count(8), 4);
    }

    private static void missedOfAParish() {
        DustYards x = new DustYards();
        for (int d = 0; d < 12; d++) {
            x.door(d % 2 == 0 ? 0 : 5, 1, 0, 0);
        }
        for (int d = 0; d < 12; d++) {
            Due.is("22 of its PARISH in DAY", x.miss(d), d / 2 + 1);
        }
        x.pass(6);
        Due.is("22 in another DAY from one on", x.miss(11), 1);
    }

    private static void missedUpTo399() {
        DustYards x = new DustYards();
        x.door(0, 1, 3, 0);
        x.door(0, 1, 2, 0);
        for (int i = 0; i < 6; i++) {
            x.pass(60);
        }
        x.pass(39);
        Due.is("==== 4 DAY 399 is of weekday 3", x.miss(0), 1);
        Due.is("==== 4 not of weekday 2", x.miss(1), STATE);
    }

    private static void sixtyMissed() {
        DustYards x = new DustYards();
        for (int d = 0; d < 12; d++) {
            x.door(0, 1, 0, 0);
        }
        for (int i = 0; i < 60; i++) {
            Due.is("22 as many in DAY", x.miss(i % 12), i % 12 + 1);
            if (i % 12 == 11) {
                x.pass(6);
            }
        }
        Due.is("22 60 are told", x.count(8), 60);
        Due.is("22 a 61st", x.miss(0), FULL);
        x.pass(1);
        Due.is("22 another weekday ahead of FULL", x.miss(0), STATE);
        Due.is("22 60 stay", x.count(8), 60);
    }

    private static void roundsOfNoDoors() {
        DustYards x = new DustYards();
        x.door(0, 999, 1, 9999);
        for (int weekday = 0; weekday < 6; weekday++) {
            Due.is("23 weekday " + weekday, x.rounds(weekday, 1, 0), weekday == 1 ? NONE : 0);
        }
    }

    private static void roundsOfEightDoors() {
        DustYards x = new DustYards();
        for (int d = 1; d <= 8; d++) {
            x.door(d % 6, 100, 2, 5);
            Due.is("23 one cart each", x.rounds(2, 100, 10), d);
            Due.is("23 two a cart", x.rounds(2, 299, 10), (d + 1) / 2);
        }
        x.door(0, 100, 3, 5);
        Due.is("23 a DOOR of another weekday is none of eight", x.rounds(2, 800, 10), 1);
        x.door(0, 100, 2, 5);
        Due.is("23 nine", x.rounds(2, 800, 10), STATE);
        Due.is("23 nine, which could not be served", x.rounds(2, 99, 9), STATE);
        Due.is("23 BAD ahead of STATE", x.rounds(2, 0, 10), BAD);
        Due.is("23 the other weekday can be asked", x.rounds(3, 100, 10), 1);
        x.door(0, 100, 2, 5);
        x.door(0, 100, 2, 5);
        Due.is("23 eleven", x.rounds(2, 9999, 99999), STATE);
    }

    private static void roundsToThePound() {
        DustYards x = new DustYards();
        x.door(0, 1, 0, 0);
        Due.is("23 the least DOOR in the least cart", x.rounds(0, 1, 0), 1);
        x.door(0, 998, 0, 0);
        Due.is("23 both to the pound", x.rounds(0, 999, 0), 1);
        Due.is("23 one pound less", x.rounds(0, 998, 0), 2);
        Due.is("23 one pound less than the heavier one", x.rounds(0, 997, 0), NONE);
        Due.is("23 the greatest cart", x.rounds(0, 9999, 0), 1);
        Due.is("23 one pound above", x.rounds(0, 10000, 0), BAD);
    }

    private static void roundsToTheYard() {
        DustYards x = new DustYards();
        x.door(0, 1, 0, 0);
        Due.is("23 no yards at all", x.rounds(0, 9, 0), 1);
        x.door(0, 1, 0, 7);
        Due.is("23 twice of the furthest", x.rounds(0, 9, 14), 1);
        Due.is("23 one yard less", x.rounds(0, 9, 13), NONE);
        x.door(0, 1, 0, 6);
        Due.is("23 not of all together", x.rounds(0, 9, 14), 1);
        x.door(0, 1, 0, 9999);
        Due.is("23 the furthest that can be", x.rounds(0, 9, 19998), 1);
        Due.is("23 one yard less than that", x.rounds(0, 9, 19997), NONE);
        Due.is("23 the most yards", x.rounds(0, 9, 99999), 1);
    }

    private static void someDoorCantBeServed() {
        for (int at = 0; at < 8; at++) {
            DustYards heavy = new DustYards();
            DustYards far = new DustYards();
            for (int d = 0; d < 8; d++) {
                heavy.door(0, d == at ? 51 : 50, 0, 10);
                far.door(0, 50, 0, d == at ? 11 : 10);
            }
            Due.is("23 NONE: DOOR " + at + " is too heavy", heavy.rounds(0, 50, 20), NONE);
            Due.is("23 a pound more", heavy.rounds(0, 51, 20), 8);
            Due.is("23 NONE: DOOR " + at + " is too far", far.rounds(0, 400, 20), NONE);
            Due.is("23 still by one yard", far.rounds(0, 400, 21), NONE);
            Due.is("23 two yards more", far.rounds(0, 400, 22), 1);
        }
    }

    private static void theFewestCarts() {
        // The order in which the DOORS were told is of no matter.
        int[][] orders = {{6, 6, 4, 4, 4, 3, 3, 2}, {2, 3, 3, 4, 4, 4, 6, 6}, {4, 6, 3, 4, 2, 6, 3, 4}};
        for (int[] order : orders) {
            DustYards x = new DustYards();
            for (int pounds : order) {
                x.door(0, pounds, 4, 0);
            }
            int[] due = {NONE, 6, 5, 5, 4, 4, 3, 3};
            for (int holds = 5; holds <= 12; holds++) {
                Due.is("23 in carts of " + holds, x.rounds(4, holds, 0), due[holds - 5]);
            }
            Due.is("23 in two", x.rounds(4, 16, 0), 2);
            Due.is("23 one pound less", x.rounds(4, 15, 0), 3);
            Due.is("23 in one", x.rounds(4, 32, 0), 1);
            Due.is("23 one pound less than all", x.rounds(4, 31, 0), 2);
        }
    }

    private static void roundsOfItsOwnDoors() {
        DustYards x = new DustYards();
        // Of weekdays in turn, so that no weekday has the DOORS that were told first.
        int[][] pounds = {{10, 500, 900}, {20, 600, 900}, {30, 700, 900}, {40, 800, 900}};
        for (int[] of : pounds) {
            for (int weekday = 0; weekday < 3; weekday++) {
                x.door(weekday, of[weekday], weekday, 10 * of[weekday]);
            }
        }
        Due.is("23 100 pounds of weekday 0", x.rounds(0, 100, 800), 1);
        Due.is("23 in two carts", x.rounds(0, 50, 800), 2);
        Due.is("23 one pound less", x.rounds(0, 49, 800), 3);
        Due.is("23 its furthest DOOR", x.rounds(0, 100, 799), NONE);
        Due.is("23 of weekday 1 in two carts", x.rounds(1, 1300, 16000), 2);
        Due.is("23 one pound less", x.rounds(1, 1299, 16000), 3);
        Due.is("23 its furthest DOOR", x.rounds(1, 1300, 15999), NONE);
        Due.is("23 its heaviest DOOR", x.rounds(1, 799, 16000), NONE);
        Due.is("23 of weekday 2 one cart each", x.rounds(2, 1799, 18000), 4);
        Due.is("23 two a cart", x.rounds(2, 1800, 18000), 2);
        Due.is("23 its DOORS are too heavy", x.rounds(2, 899, 18000), NONE);
    }

    private static void fiveRows() {
        DustYards x = new DustYards();
        for (int r = 0; r < 5; r++) {
            Due.is("25 no such ROW yet", x.bid(0, 0, 0, r), NO);
            Due.is("24 its number", x.row(999, 999), r);
            Due.is("25 it is there", x.bid(0, 0, 0, r), 0);
        }
        Due.is("24 a 6th", x.row(0, 0), FULL);
        Due.is("24 BAD ahead of FULL, BREEZE", x.row(1000, 0), BAD);
        Due.is("24 BAD ahead of FULL, SOIL", x.row(0, -1), BAD);
        Due.is("25 ROW 5", x.bid(0, 0, 0, 5), NO);
        Due.is("25 ROW -2", x.bid(0, 0, 0, -2), NO);
        x.cart(0, 0, 0, 100, 0, 0);
        Due.is("24 the 6th does not count", x.bid(0, 0, 0, -1), 199 + 399);
    }

    private static void bidWithoutRows() {
        DustYards x = new DustYards();
        x.cart(0, 0, 0, 9999, 0, 0);
        Due.is("==== 4 0 without any", x.bid(0, 0, 399, -1), 0);
        Due.is("25 ROW 0 is none", x.bid(0, 0, 399, 0), NO);
        Due.is("25 PARISH, without ROWS", x.bid(6, 0, 399, -1), NO);
        Due.is("25 DAYS, without ROWS", x.bid(0, 1, 0, -1), NO);
    }

    private static void bidWithoutCarts() {
        DustYards x = new DustYards();
        x.row(5, 5);
        x.cart(0, 1, 0, 9999, 0, 0);
        for (int parish = 0; parish < 6; parish++) {
            Due.is("25 of a PARISH's own carts", x.bid(parish, 0, 0, 0), parish == 1 ? 99 + 199 : 0);
        }
    }

    private static void bidFromTo() {
        DustYards x = new DustYards();
        x.row(100, 0);
        x.pass(5);
        x.cart(0, 0, 0, 100, 0, 0);
        x.pass(1);
        x.cart(0, 0, 0, 1000, 0, 0);
        Due.is("25 ahead of them", x.bid(0, 0, 4, 0), 0);
        Due.is("25 to the first", x.bid(0, 0, 5, 0), 20);
        Due.is("25 the first alone", x.bid(0, 5, 5, 0), 20);
        Due.is("25 both", x.bid(0, 5, 6, -1), 220);
        Due.is("25 from the second on", x.bid(0, 6, 399, 0), 200);
        Due.is("25 behind them", x.bid(0, 7, 399, 0), 0);
        Due.is("25 to ahead of from by one", x.bid(0, 6, 5, 0), NO);
        Due.is("25 from below 0", x.bid(0, -1, 5, 0), NO);
        Due.is("25 to 400", x.bid(0, 5, 400, 0), NO);
        Due.is("25 both 400", x.bid(0, 400, 400, 0), NO);
        Due.is("25 both below 0", x.bid(0, -1, -1, 0), NO);
    }

    private static void bidEachCut() {
        DustYards x = new DustYards();
        // 10 and 20 pounds of BREEZE and SOIL: each below a penny at 4 and 9 pence.
        x.cart(0, 0, 0, 50, 0, 0);
        x.row(9, 4);
        Due.is("==== 4 each cut by itself", x.bid(0, 0, 0, 0), 0);
        x.row(10, 4);
        Due.is("==== 4 a penny of BREEZE", x.bid(0, 0, 0, 1), 1);
        x.row(9, 5);
        Due.is("==== 4 a penny of SOIL", x.bid(0, 0, 0, 2), 1);
        x.row(19, 9);
        x.cart(0, 0, 0, 50, 0, 0);
        Due.is("==== 4 of each cart by itself", x.bid(0, 0, 0, 3), 4);
    }

    private static void bidAsItCame() {
        DustYards x = new DustYards();
        x.row(100, 100);
        x.cart(1, 0, 0, 1000, 50, 0);
        Due.is("==== 4 of what is DRY", x.bid(0, 0, 0, 0), 250 + 200);
        x.fire(0, 50);
        Due.is("==== 4 no FIRE", x.bid(0, 0, 0, 0), 450);
        x.sift(0, 99999);
        Due.is("==== 4 a SIFTED one, too", x.bid(0, 0, 0, 0), 450);
        x.sell(0, 100);
        Due.is("==== 4 a SOLD one, too", x.bid(0, 0, 0, -1), 450);
        x.cart(1, 0, 1, 1000, 50, 0);
        x.fire(1, 100);
        Due.is("==== 4 one of which all is BURNT, too", x.bid(0, 0, 0, 0), 900);
    }

    private static void bidOfTheLeastRow() {
        for (int least = 0; least < 5; least++) {
            DustYards x = new DustYards();
            x.cart(0, 0, 0, 1000, 0, 0);
            for (int r = 0; r < 5; r++) {
                x.row(r == least ? 10 : 20 + r, 0);
            }
            Due.is("==== 4 ROW " + least + " is the least", x.bid(0, 0, 0, -1), 20);
        }
        DustYards x = new DustYards();
        x.cart(3, 0, 0, 1000, 0, 0);
        x.cart(5, 1, 0, 1000, 0, 0);
        x.row(100, 10);
        x.row(10, 100);
        Due.is("==== 4 of all together, not of each cart", x.bid(0, 0, 0, -1), 70 + 200);
        Due.is("==== 4 the other PARISH by the other ROW", x.bid(1, 0, 0, -1), 100 + 80);
        x.row(0, 0);
        Due.is("==== 4 a ROW of no pence", x.bid(0, 0, 0, -1), 0);
    }

    private static void theBidFromTo() {
        DustYards x = new DustYards();
        x.row(0, 0);
        x.row(50, 100);
        DustYards y = new DustYards();
        y.row(100, 0);
        y.row(0, 100);
        for (int day = 0; day < 4; day++) {
            x.cart(0, 0, 0, 1000, 0, 0);
            y.cart(3, 0, 0, 100 << day, 0, 0);
            x.pass(1);
            y.pass(1);
        }
        Due.is("==== 4 the first ROW's is 0: no other is less", x.bid(0, 0, 3, -1), 0);
        Due.is("==== 4 all DAYS, by SOIL", y.bid(0, 0, 399, -1), 20 * 15);
        Due.is("==== 4 THE BID is of DAYS from", y.bid(0, 2, 399, -1), 20 * (4 + 8));
        Due.is("==== 4 THE BID is of DAYS to", y.bid(0, 0, 1, -1), 20 * (1 + 2));
        Due.is("==== 4 THE BID of one DAY", y.bid(0, 1, 1, -1), 20 * 2);
        Due.is("==== 4 by the other ROW", y.bid(0, 1, 2, 0), 70 * (2 + 4));
        Due.is("==== 4 behind all carts", y.bid(0, 4, 399, -1), 0);
    }

    private static void theGreatestBid() {
        DustYards x = new DustYards();
        for (int i = 0; i < 40; i++) {
            x.cart(3, 0, 0, 9999, 0, 0);
        }
        x.row(999, 999);
        Due.is("25 of forty carts", x.bid(0, 0, 0, -1), 40 * (6999 * 999 / 100 + 1999 * 999 / 100));
    }
}
