/** Promises 21 to 25: doors, rounds, rows, bids. */
public final class DoorsTest {
    private static final int NONE = DustYards.NONE, BAD = DustYards.BAD;
    private static final int STATE = DustYards.STATE, FULL = DustYards.FULL;
    private static final long NO = DustYards.NO;

    private DoorsTest() {
    }

    public static void main(String[] args) {
        door();
        miss();
        missIsFull();
        roundsRefused();
        roundsOfFew();
        roundsWhereGreedFails();
        roundsOfEight();
        row();
        bid();
        bidRefused();
        Due.end();
    }

    private static void door() {
        DustYards x = new DustYards();
        Due.is("21 the least", x.door(0, 1, 0, 0), 0);
        Due.is("21 the greatest", x.door(5, 999, 5, 9999), 1);
        Due.is("21 parish -1", x.door(-1, 1, 0, 0), BAD);
        Due.is("21 parish 6", x.door(6, 1, 0, 0), BAD);
        Due.is("21 no pounds", x.door(0, 0, 0, 0), BAD);
        Due.is("21 1000 pounds", x.door(0, 1000, 0, 0), BAD);
        Due.is("21 weekday -1", x.door(0, 1, -1, 0), BAD);
        Due.is("21 weekday 6", x.door(0, 1, 6, 0), BAD);
        Due.is("21 yards -1", x.door(0, 1, 0, -1), BAD);
        Due.is("21 yards 10000", x.door(0, 1, 0, 10000), BAD);
        for (int i = 2; i < 12; i++) {
            Due.is("21 number", x.door(0, 1, 0, 0), i);
        }
        Due.is("21 FULL", x.door(0, 1, 0, 0), FULL);
        Due.is("21 BAD ahead of FULL", x.door(0, 0, 0, 0), BAD);
        Due.is("21 DOORS", x.count(7), 12);
    }

    private static void miss() {
        DustYards x = new DustYards();
        Due.is("22 no door", x.miss(0), BAD);
        x.door(0, 1, 0, 0);
        x.door(0, 1, 1, 0);
        x.door(1, 1, 1, 0);
        x.door(0, 1, 1, 0);
        Due.is("22 door -1", x.miss(-1), BAD);
        Due.is("22 door 4", x.miss(4), BAD);
        Due.is("22 another weekday", x.miss(1), STATE);
        Due.is("22 its weekday", x.miss(0), 1);
        Due.is("22 it was told", x.miss(0), STATE);
        x.pass(7);
        Due.is("22 a week behind", x.miss(1), 1);
        Due.is("22 of another PARISH", x.miss(2), 1);
        Due.is("22 of that PARISH in DAY", x.miss(3), 2);
        Due.is("22 it was told, too", x.miss(3), STATE);
        Due.is("22 of weekday 0", x.miss(0), STATE);
        x.pass(5);
        Due.is("22 again in another DAY", x.miss(0), 1);
        Due.is("22 MISSED", x.count(8), 5);
    }

    private static void missIsFull() {
        DustYards x = new DustYards();
        for (int d = 0; d < 12; d++) {
            x.door(d % 2, 1, d < 11 ? 0 : 1, 0);
        }
        for (int week = 0; week < 5; week++) {
            for (int d = 0; d < 11; d++) {
                x.miss(d);
            }
            x.pass(6);
        }
        for (int d = 0; d < 5; d++) {
            Due.is("22 up to 60", x.miss(d), d / 2 + 1);
        }
        Due.is("22 60 were told", x.miss(5), FULL);
        Due.is("22 STATE ahead of FULL", x.miss(0), STATE);
        Due.is("22 another weekday ahead of FULL", x.miss(11), STATE);
        Due.is("22 BAD ahead of FULL", x.miss(12), BAD);
        Due.is("22 60 of them", x.count(8), 60);
    }

    private static void roundsRefused() {
        DustYards x = new DustYards();
        Due.is("23 weekday -1", x.rounds(-1, 1, 0), BAD);
        Due.is("23 weekday 6", x.rounds(6, 1, 0), BAD);
        Due.is("23 no pounds", x.rounds(0, 0, 0), BAD);
        Due.is("23 10000 pounds", x.rounds(0, 10000, 0), BAD);
        Due.is("23 yards -1", x.rounds(0, 1, -1), BAD);
        Due.is("23 yards 100000", x.rounds(0, 1, 100000), BAD);
        Due.is("23 no doors", x.rounds(0, 9999, 99999), 0);
        for (int d = 0; d < 8; d++) {
            x.door(0, 10, 3, 10);
        }
        x.door(0, 999, 4, 9999);
        Due.is("23 eight doors", x.rounds(3, 20, 20), 4);
        x.door(0, 10, 3, 10);
        Due.is("23 nine doors", x.rounds(3, 20, 20), STATE);
        Due.is("23 STATE ahead of NONE", x.rounds(3, 1, 0), STATE);
        Due.is("23 BAD ahead of STATE", x.rounds(3, 0, 0), BAD);
        Due.is("23 another weekday", x.rounds(4, 999, 19998), 1);
    }

    private static void roundsOfFew() {
        DustYards x = new DustYards();
        x.door(0, 300, 1, 100);
        x.door(1, 400, 1, 9999);
        Due.is("23 too heavy", x.rounds(1, 399, 99999), NONE);
        Due.is("23 too far", x.rounds(1, 700, 19997), NONE);
        Due.is("23 twice the yards", x.rounds(1, 700, 19998), 1);
        Due.is("23 a pound too many for one", x.rounds(1, 699, 19998), 2);
        Due.is("23 as many as there are", x.rounds(1, 400, 19998), 2);
    }

    private static void roundsWhereGreedFails() {
        // In each of these the greatest DOOR first, into the first or fullest cart, needs one more.
        int[][] doors = {
            {22, 19, 12, 11, 8, 7},
            {6, 6, 4, 4, 4, 3, 3, 2},
            {12, 9, 9, 7, 4, 3},
            {8, 7, 5, 4, 4, 4, 3, 3},
            {12, 11, 9, 9, 7, 3, 3},
            {4, 4, 4, 3, 3, 3, 3, 3},
        };
        int[] holds = {40, 11, 22, 13, 27, 9};
        int[] due = {2, 3, 2, 3, 2, 4};
        for (int i = 0; i < doors.length; i++) {
            DustYards x = new DustYards();
            for (int pounds : doors[i]) {
                x.door(0, pounds, 5, 0);
            }
            Due.is("23 set " + i, x.rounds(5, holds[i], 0), due[i]);
        }
    }

    private static void roundsOfEight() {
        DustYards x = new DustYards();
        for (int d = 0; d < 8; d++) {
            x.door(0, 999, 2, 0);
        }
        Due.is("23 each by itself", x.rounds(2, 999, 0), 8);
        Due.is("23 one below two", x.rounds(2, 1997, 0), 8);
        Due.is("23 two each", x.rounds(2, 1998, 0), 4);
        Due.is("23 three each", x.rounds(2, 2997, 0), 3);
        Due.is("23 one below all", x.rounds(2, 7991, 0), 2);
        Due.is("23 all", x.rounds(2, 7992, 0), 1);
        Due.is("23 the greatest cart", x.rounds(2, 9999, 0), 1);
    }

    private static void row() {
        DustYards x = new DustYards();
        Due.is("24 breeze -1", x.row(-1, 0), BAD);
        Due.is("24 breeze 1000", x.row(1000, 0), BAD);
        Due.is("24 soil -1", x.row(0, -1), BAD);
        Due.is("24 soil 1000", x.row(0, 1000), BAD);
        for (int i = 0; i < 5; i++) {
            Due.is("24 number", x.row(i % 2 * 999, 999 - i % 2 * 999), i);
        }
        Due.is("24 FULL", x.row(0, 0), FULL);
        Due.is("24 BAD ahead of FULL", x.row(0, 1000), BAD);
        Due.is("24 ROWS", x.count(9), 5);
    }

    private static void bid() {
        DustYards x = new DustYards();
        x.cart(0, 3, 0, 199, 0, 0);
        x.cart(1, 3, 0, 398, 50, 0);
        x.cart(2, 2, 0, 9999, 0, 0);
        x.pass(3);
        x.cart(4, 3, 0, 1000, 0, 0);
        Due.is("25 no ROWS", x.bid(3, 0, 399, -1), 0);
        x.row(33, 0);
        x.row(0, 77);
        x.row(33, 77);
        Due.is("25 BREEZE, each cut", x.bid(3, 0, 0, 0), 12 + 32);
        Due.is("25 SOIL, each cut", x.bid(3, 0, 0, 1), 60 + 60);
        Due.is("25 both, each cut", x.bid(3, 0, 0, 2), 12 + 32 + 60 + 60);
        Due.is("25 a later DAY", x.bid(3, 1, 3, 2), 33 + 539);
        Due.is("25 all DAYS", x.bid(3, 0, 3, 0), 12 + 32 + 33);
        Due.is("25 THE BID", x.bid(3, 0, 3, -1), 12 + 32 + 33);
        Due.is("25 no carts", x.bid(0, 0, 3, -1), 0);
        Due.is("25 another PARISH", x.bid(2, 0, 3, 0), 329);
        x.fire(0, 50);
        x.sift(0, 99999);
        Due.is("25 no FIRE", x.bid(3, 0, 3, 2), 12 + 32 + 33 + 60 + 60 + 539);
        x.row(0, 1);
        Due.is("25 the least is the last ROW's", x.bid(3, 0, 3, -1), 7);
    }

    private static void bidRefused() {
        DustYards x = new DustYards();
        x.row(1, 1);
        Due.is("25 parish -1", x.bid(-1, 0, 0, 0), NO);
        Due.is("25 parish 6", x.bid(6, 0, 0, 0), NO);
        Due.is("25 from -1", x.bid(0, -1, 0, 0), NO);
        Due.is("25 to 400", x.bid(0, 0, 400, 0), NO);
        Due.is("25 to ahead of from", x.bid(0, 5, 4, 0), NO);
        Due.is("25 row 1", x.bid(0, 0, 0, 1), NO);
        Due.is("25 row -2", x.bid(0, 0, 0, -2), NO);
        Due.is("25 row 0", x.bid(0, 0, 399, 0), 0);
    }
}
