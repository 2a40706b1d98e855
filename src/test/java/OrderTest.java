import java.util.Arrays;

/**
 * All promises: where a call can be refused for more than one reason, which of them is answered;
 * and that no refusal changes anything. (BAD ahead of FULL for each number by itself: BoundsTest.)
 */
public final class OrderTest {
    private static final int NONE = DustYards.NONE, BAD = DustYards.BAD;
    private static final int STATE = DustYards.STATE, FULL = DustYards.FULL;
    private static final int NOTHING = -11, OUTSIDE = -12, UNLIKE = -13, BELOW_ZERO = -14;
    private static final int MAX = Integer.MAX_VALUE, MIN = Integer.MIN_VALUE;
    private static final Yards NEW = Yards.NEW, STOCKED = Yards.STOCKED, FILLED = Yards.FILLED;

    private OrderTest() {
    }

    public static void main(String[] args) {
        full();
        state();
        miss();
        rounds();
        laid();
        sheet();
        cell();
        copy();
        prices();
        taken();
        Due.end();
    }

    private static void refused(String why, Yards yards, long due, String call, int... n) {
        String what = why + ": " + yards + " " + call + Arrays.toString(n);
        for (Watch part : Watch.values()) {
            Yard x = yards.make();
            Due.is(what, x.ask(call, n), due);
            Watch.same(what, part, x, yards.make());
        }
    }

    private static void full() {
        refused("2 above 399", FILLED, FULL, "pass", 1);
        refused("2 far above 399", FILLED, FULL, "pass", 60);
        refused("3 a 41st", FILLED, FULL, "cart", 0, 0, 0, 1, 0, 0);
        refused("10 a 41st", FILLED, FULL, "price", 0, 0, 0);
        refused("13 a 7th, ahead of a FAULT", FILLED, FULL, "text");
        refused("14 a 21st", FILLED, FULL, "contract", 0, 0, 0);
        refused("18 a 21st", FILLED, FULL, "find", 0, 0, 0);
        refused("21 a 13th", FILLED, FULL, "door", 0, 1, 0, 0);
        refused("24 a 6th", FILLED, FULL, "row", 0, 0);
        refused("28 a 9th", FILLED, FULL, "barge", 1, 0);
        refused("30 a 7th", FILLED, FULL, "buyer", 0, 0);
        for (Watch part : Watch.values()) {
            Yard x = FILLED.make();
            Due.is("12 a 161st byte", x.feed(1, ' '), FULL);
            Due.is("12 eight more", x.feed(8, ' '), FULL);
            Watch.same("12 FULL", part, x, FILLED.make());
        }
    }

    private static void state() {
        refused("9 there is none", NEW, STATE, "sell", 0, 1);
        refused("9 there is none, the most pounds", NEW, STATE, "sell", 3, 99999);
        refused("9 BREEZE is 200 less 20", STOCKED, STATE, "sell", 0, 181);
        refused("9 SOIL is 400", STOCKED, STATE, "sell", 1, 401);
        refused("9 BONES are 50", STOCKED, STATE, "sell", 2, 51);
        refused("9 RAGS are 30", STOCKED, STATE, "sell", 3, 31);
        refused("9 BAD: WASTE is no SORT", STOCKED, BAD, "sell", 4, 1);
        refused("9 BAD: BURNT is no SORT", STOCKED, BAD, "sell", 5, 1);
        refused("9 BAD ahead of STATE, both numbers", NEW, BAD, "sell", -1, 0);
    }

    private static void miss() {
        refused("22 there is none", NEW, BAD, "miss", 0);
        refused("22 another weekday", STOCKED, STATE, "miss", 3);
        refused("22 60 were told", FILLED, FULL, "miss", 5);
        refused("22 it was told, ahead of FULL", FILLED, STATE, "miss", 4);
        refused("22 another weekday, ahead of FULL", FILLED, STATE, "miss", 11);
        refused("22 BAD ahead of FULL", FILLED, BAD, "miss", 12);
        Yard x = STOCKED.make();
        Due.is("22 a week behind, of its weekday", x.ask("miss", 0), 1);
        Due.is("22 it was told in DAY", x.ask("miss", 0), STATE);
        Due.is("22 that changed nothing", x.ask("count", 8), 4);
        Due.is("22 another one of its PARISH", x.ask("miss", 1), 2);
    }

    private static void rounds() {
        refused("23 more than 8", FILLED, STATE, "rounds", 3, 9999, 99999);
        refused("23 STATE ahead of NONE, pounds", FILLED, STATE, "rounds", 3, 1, 99999);
        refused("23 STATE ahead of NONE, yards", FILLED, STATE, "rounds", 3, 9999, 0);
        refused("23 BAD ahead of STATE, no pounds", FILLED, BAD, "rounds", 3, 0, 99999);
        refused("23 BAD ahead of STATE, pounds", FILLED, BAD, "rounds", 3, 10000, 99999);
        refused("23 BAD ahead of STATE, yards below 0", FILLED, BAD, "rounds", 3, 9999, -1);
        refused("23 BAD ahead of STATE, yards", FILLED, BAD, "rounds", 3, 9999, 100000);
        refused("23 NONE: a DOOR is too heavy", FILLED, NONE, "rounds", 4, 998, 99999);
        refused("23 NONE: a DOOR is too far", FILLED, NONE, "rounds", 4, 9999, 19997);
        refused("23 BAD ahead of NONE, pounds", STOCKED, BAD, "rounds", 1, 0, 0);
        refused("23 BAD ahead of NONE, yards", STOCKED, BAD, "rounds", 1, 1, -1);
    }

    private static void laid() {
        refused("27 NONE: behind the HANDS", STOCKED, NONE, "laid", 7, 3);
        refused("27 NONE: of no HANDS", STOCKED, NONE, "laid", 0, 0);
        refused("27 NONE: below -1", STOCKED, NONE, "laid", 7, -2);
        refused("27 NONE: a HAND by its own number", STOCKED, NONE, "laid", 512, 9);
        refused("27 BAD ahead of NONE, six HANDS", STOCKED, BAD, "laid", 63, 6);
        refused("27 BAD ahead of NONE, all HANDS", STOCKED, BAD, "laid", 1023, 10);
        refused("27 BAD ahead of NONE, an 11th HAND", STOCKED, BAD, "laid", 1024, 1);
        refused("27 BAD ahead of NONE, below 0", STOCKED, BAD, "laid", MIN, -2);
    }

    private static void sheet() {
        refused("34 a size below 0", STOCKED, BELOW_ZERO, "sheet", 0, 0, -1);
        refused("34 BAD ahead of -14, SHEET", STOCKED, BAD, "sheet", 4, 0, -1);
        refused("34 BAD ahead of -14, SHEET below 0", STOCKED, BAD, "sheet", -1, 0, -1);
        refused("34 BAD ahead of -14, sort", STOCKED, BAD, "sheet", 0, 3, -1);
        refused("34 BAD ahead of -14, sort below -1", STOCKED, BAD, "sheet", 0, -2, MIN);
        refused("34 BAD: no such SHEET to be missing", STOCKED, BAD, "sheet", 4, -1, 0);
        for (int n : new int[] {MIN, -1, 0, 40, 41, MAX}) {
            Yard x = STOCKED.make();
            Due.is("34 missing: n does not matter: " + n, x.ask("sheet", 2, -1, n), 1);
            Due.is("34 it is missing", x.ask("cell", 2, 0, 0), NOTHING);
        }
    }

    private static void cell() {
        refused("35 missing", STOCKED, NOTHING, "cell", 3, 0, 0);
        refused("35 -11 ahead of -12, below", STOCKED, NOTHING, "cell", 3, -1, 0);
        refused("35 -11 ahead of -12, behind", STOCKED, NOTHING, "cell", 3, 40, 0);
        refused("35 BAD ahead of -12", STOCKED, BAD, "cell", 4, -1, 0);
        refused("35 BAD ahead of -11", NEW, BAD, "cell", -1, 0, 0);
    }

    private static void copy() {
        refused("36 BAD ahead of -11, the one", STOCKED, BAD, "copy", 4, 0, 3, 0, 0);
        refused("36 BAD ahead of -11, the other", STOCKED, BAD, "copy", 3, 0, 4, 0, 0);
        refused("36 BAD ahead of -11, the one below 0", STOCKED, BAD, "copy", -1, 0, 3, 0, 0);
        refused("36 BAD ahead of -11, the other below 0", STOCKED, BAD, "copy", 3, 0, -1, 0, 0);
        refused("36 BAD ahead of -12", STOCKED, BAD, "copy", 0, -1, 4, 9, -1);
        refused("36 -11: the one", STOCKED, NOTHING, "copy", 3, 0, 0, 0, 1);
        refused("36 -11: the other", STOCKED, NOTHING, "copy", 0, 0, 3, 0, 1);
        refused("36 -11: both", STOCKED, NOTHING, "copy", 3, 0, 3, 0, 1);
        refused("36 -11 by none", STOCKED, NOTHING, "copy", 0, 0, 3, 0, 0);
        refused("36 -11 ahead of -12, i", STOCKED, NOTHING, "copy", 0, 9, 3, 0, 1);
        refused("36 -11 ahead of -12, j", STOCKED, NOTHING, "copy", 3, 0, 0, 9, 1);
        refused("36 -11 ahead of -12, n", STOCKED, NOTHING, "copy", 3, 0, 0, 0, -1);
        refused("36 -13 by none", STOCKED, UNLIKE, "copy", 0, 0, 1, 0, 0);
        refused("36 -13: bytes and ints", STOCKED, UNLIKE, "copy", 2, 0, 0, 0, 1);
        refused("36 -13: shorts and ints", STOCKED, UNLIKE, "copy", 1, 0, 2, 0, 1);
        refused("36 -13 ahead of -12, i", STOCKED, UNLIKE, "copy", 0, -1, 1, 0, 1);
        refused("36 -13 ahead of -12, j", STOCKED, UNLIKE, "copy", 0, 0, 1, 9, 1);
        refused("36 -13 ahead of -12, n", STOCKED, UNLIKE, "copy", 0, 0, 1, 0, -1);
        refused("36 -12: n below 0", STOCKED, OUTSIDE, "copy", 0, 2, 0, 2, -1);
        refused("36 -12: n and i wrap around", STOCKED, OUTSIDE, "copy", 0, MAX, 0, 0, MAX);
        refused("36 -12: n and j wrap around", STOCKED, OUTSIDE, "copy", 0, 0, 0, 2, MAX);
        refused("36 -12: i below 0 by none", STOCKED, OUTSIDE, "copy", 0, -1, 0, 0, 0);
        refused("36 -12: j behind the end by none", STOCKED, OUTSIDE, "copy", 0, 0, 0, 6, 0);
    }

    private static void prices() {
        refused("37 BAD ahead of -13, SORT", STOCKED, BAD, "prices", 4, 0, 0, 1, 0, 1);
        refused("37 BAD ahead of -13, DAY", STOCKED, BAD, "prices", 0, 400, 0, 1, 0, 1);
        refused("37 BAD ahead of -13, n", STOCKED, BAD, "prices", 0, 0, 0, 1, 0, 41);
        refused("37 BAD ahead of -13, n below 0", STOCKED, BAD, "prices", 0, 0, 0, 1, 0, -1);
        refused("37 BAD ahead of -11, SORT", STOCKED, BAD, "prices", -1, 0, 3, 0, 0, 1);
        refused("37 BAD ahead of -11, DAY", STOCKED, BAD, "prices", 0, -1, 3, 0, 0, 1);
        refused("37 BAD ahead of -11, sort", STOCKED, BAD, "prices", 0, 0, 3, 3, 0, 1);
        refused("37 BAD ahead of -11, sort -1", STOCKED, BAD, "prices", 0, 0, 3, -1, 0, 1);
        refused("37 BAD ahead of -11, n", STOCKED, BAD, "prices", 0, 0, 3, 0, 0, 41);
        refused("37 BAD ahead of -12", STOCKED, BAD, "prices", 0, 0, 0, 0, -1, 41);
        refused("37 BAD: no such SHEET, ahead of -12", STOCKED, BAD, "prices", 0, 0, 4, 0, -1, 1);
        refused("37 -13 ahead of -12", STOCKED, UNLIKE, "prices", 0, 0, 0, 1, -1, 1);
        refused("37 -13 by none", STOCKED, UNLIKE, "prices", 0, 0, 0, 2, 0, 0);
        refused("37 -13: shorts for bytes", STOCKED, UNLIKE, "prices", 0, 0, 1, 0, 0, 1);
        refused("37 -13: ints for shorts", STOCKED, UNLIKE, "prices", 0, 0, 2, 1, 0, 1);
        refused("37 -11 by none", STOCKED, NOTHING, "prices", 0, 0, 3, 0, 0, 0);
        refused("37 -11 for bytes, ahead of -12", STOCKED, NOTHING, "prices", 0, 0, 3, 0, -1, 1);
        refused("37 -11 for ints, ahead of -12", STOCKED, NOTHING, "prices", 0, 0, 3, 2, 40, 1);
        refused("37 -12: nothing stood ahead", STOCKED, OUTSIDE, "prices", 0, 0, 0, 0, 5, 1);
        refused("37 -12: below 0", STOCKED, OUTSIDE, "prices", 0, 0, 0, 0, -1, 5);
        refused("37 -12: where from and n wrap around", STOCKED, OUTSIDE, "prices", 0, 0, 0, 0, MAX, 40);
        refused("37 -12: PRICES are full", FILLED, OUTSIDE, "prices", 0, 0, 0, 0, 1, 40);
        refused("37 none has room", FILLED, 0, "prices", 0, 0, 0, 0, 0, 40);
    }

    private static void taken() {
        refused("38 BAD ahead of -11, k", NEW, BAD, "taken", 0, 6);
        refused("38 BAD ahead of -11, k below 0", NEW, BAD, "taken", -1, -1);
        refused("38 -11", NEW, NOTHING, "taken", 0, 0);
        refused("38 -11 ahead of -13", STOCKED, NOTHING, "taken", 6, 5);
        refused("38 BAD ahead of -13", STOCKED, BAD, "taken", 0, 6);
        refused("38 -13: a CART is no ASH", STOCKED, UNLIKE, "taken", 0, 1);
        refused("38 -13: an ASH is no CINDER", STOCKED, UNLIKE, "taken", 1, 3);
        refused("38 -13: a CINDER is no FINE", STOCKED, UNLIKE, "taken", 3, 5);
        refused("38 -13: a SLOP is no ASH", STOCKED, UNLIKE, "taken", 4, 1);
    }
}
