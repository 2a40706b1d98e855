/** Yards to begin tests with: one that has nothing, one with some of everything, one that is full. */
enum Yards {
    NEW(0, 0, 0, 0, 0, 0, 1),
    STOCKED(12, 6, 3, 4, 2, 3, 3),
    FILLED(399, 40, 20, 12, 5, 6, 6);

    static final String PART_OF_A_TEXT = "pay 5;fine";

    final int day;
    final int carts;
    final int finds;
    final int doors;
    final int rows;
    final int buyers;
    final int texts;

    Yards(int day, int carts, int finds, int doors, int rows, int buyers, int texts) {
        this.day = day;
        this.carts = carts;
        this.finds = finds;
        this.doors = doors;
        this.rows = rows;
        this.buyers = buyers;
        this.texts = texts;
    }

    /** A new object, made so. */
    Yard make() {
        return make(Yard.of(new DustYards()));
    }

    /** Some 270 calls at most: the others of the 512 are the test's. */
    Yard make(Yard x) {
        if (this == STOCKED) {
            carts(x);
            contracts(x);
            others(x);
        } else if (this == FILLED) {
            fillDays(x);
            fill(x);
            fillTexts(x);
        }
        return x;
    }

    private static void carts(Yard x) {
        x.ask("door", 0, 300, 0, 100);
        x.ask("door", 0, 400, 0, 200);
        x.ask("door", 1, 300, 0, 300);
        x.ask("door", 2, 900, 1, 50);
        x.ask("miss", 0);
        x.ask("cart", 0, 0, 0, 1000, 0, 1200);
        x.ask("cart", 1, 1, 1, 900, 10, 1000);
        x.ask("price", 0, 0, 100);
        x.ask("price", 0, 2, 110);
        x.ask("price", 1, 1, 50);
        x.ask("pass", 6);
        x.ask("cart", 2, 1, 0, 800, 20, 1200);
        x.ask("cart", 3, 0, 0, 700, 5, 800);
        x.ask("miss", 1);
        x.ask("miss", 2);
        x.ask("price", 0, 5, 120);
        x.ask("price", 3, 398, 999);
        x.ask("pass", 6);
        x.ask("cart", 4, 2, 2, 600, 90, 601);
        x.ask("cart", 5, 3, 3, 500, 33, 0);
        x.ask("sift", 0, 1000);
        x.ask("fire", 0, 10);
        x.ask("sell", 0, 20);
    }

    private static void contracts(Yard x) {
        x.text("pay weight-3;fine missed*7+1;find kind;");
        x.text("pay price*2;fine 5-wet;find weight;");
        x.ask("contract", 0, 0, 1);
        x.ask("contract", 1, 6, 2);
        x.ask("contract", 5, 399, 1);
        x.ask("find", 0, 3, 50);
        x.ask("find", 2, 9, 70);
        x.ask("find", 3, 0, 90);
        x.tape(PART_OF_A_TEXT);
    }

    private static void others(Yard x) {
        x.ask("row", 100, 10);
        x.ask("row", 10, 200);
        x.ask("wins", 0, 0, 9);
        x.ask("wins", 0, 1, 8);
        x.ask("wins", 1, 0, 7);
        x.ask("wins", 9, 4, 999);
        x.ask("barge", 100, 50);
        x.ask("barge", 60, 30);
        x.ask("barge", 50, 25);
        x.ask("buyer", 100, 90);
        x.ask("buyer", 30, 120);
        x.ask("buyer", 50, 120);
        x.ask("stop", 1, 1);
        for (int s = 0; s < 3; s++) {
            x.ask("sheet", s, s, 5 - s);
            for (int i = 0; i < 5 - s; i++) {
                x.ask("cell", s, i, 10 * s + i + 1);
            }
        }
    }

    /** Eleven DOORS of weekday 3: 55 are told MISSED in five weeks, and 5 more in DAY 399. */
    private static void fillDays(Yard x) {
        for (int d = 0; d < 12; d++) {
            x.ask("door", d % 6, 999, d < 11 ? 3 : 4, 9999);
        }
        x.ask("pass", 9);
        for (int i = 0; i < 6; i++) {
            x.ask("pass", 60);
        }
        for (int week = 0; week < 5; week++) {
            for (int d = 0; d < 11; d++) {
                x.ask("miss", d);
            }
            x.ask("pass", 6);
        }
        for (int d = 0; d < 5; d++) {
            x.ask("miss", d);
        }
    }

    private static void fill(Yard x) {
        for (int i = 0; i < 40; i++) {
            x.ask("cart", i % 6, i % 5, i % 4, 9999 - i, i, 9999);
            x.ask("price", i % 4, 360 + i, 999 - i);
        }
        for (int i = 0; i < 20; i++) {
            x.ask("find", 2 * i, i % 10, 9999 - i);
            x.ask("contract", i % 6, 20 * i, 0);
        }
        for (int i = 0; i < 5; i++) {
            x.ask("row", 999 - i, 990 + i);
        }
        for (int i = 0; i < 8; i++) {
            x.ask("barge", 9999 - i, 9990 + i);
        }
        for (int i = 0; i < 6; i++) {
            x.ask("buyer", 9999 - i, 990 + i);
        }
        for (int s = 0; s < 3; s++) {
            x.ask("sheet", s, s, 40);
        }
    }

    private static void fillTexts(Yard x) {
        for (int i = 1; i < 6; i++) {
            x.text("pay 1;fine 2;find 3;");
        }
        x.tape("?".repeat(160));
    }
}
