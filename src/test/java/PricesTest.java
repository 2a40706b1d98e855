/** Promises 10 to 20: prices, the tape, texts, contracts, finds. */
public final class PricesTest {
    private static final int BAD = DustYards.BAD, FULL = DustYards.FULL;
    private static final long NO = DustYards.NO;

    private PricesTest() {
    }

    public static void main(String[] args) {
        price();
        priceOf();
        feed();
        textNumbers();
        textFaults();
        textNests();
        contract();
        contractOf();
        says();
        saysNames();
        saysByTheDay();
        owed();
        find();
        whose();
        finds();
        Due.end();
    }

    private static void price() {
        DustYards x = new DustYards();
        Due.is("10 sort -1", x.price(-1, 0, 0), BAD);
        Due.is("10 sort 4", x.price(4, 0, 0), BAD);
        Due.is("10 day -1", x.price(0, -1, 0), BAD);
        Due.is("10 day 400", x.price(0, 400, 0), BAD);
        Due.is("10 pence -1", x.price(0, 0, -1), BAD);
        Due.is("10 pence 1000", x.price(0, 0, 1000), BAD);
        Due.is("10 none came", x.count(2), 0);
        for (int i = 1; i <= 40; i++) {
            Due.is("10 how many", x.price(i % 4, i % 2 * 399, i % 3 == 0 ? 999 : 0), i);
        }
        Due.is("10 FULL", x.price(0, 0, 0), FULL);
        Due.is("10 BAD ahead of FULL", x.price(0, 0, 1000), BAD);
        Due.is("10 40 at most", x.count(2), 40);
    }

    private static void priceOf() {
        DustYards x = new DustYards();
        x.price(0, 10, 100);
        x.price(0, 10, 110);
        x.price(0, 20, 200);
        x.price(1, 15, 500);
        x.pass(4);
        x.price(0, 10, 120);
        x.price(0, 12, 0);
        Due.is("11 none ahead", x.priceOf(0, 9, 4), 0);
        Due.is("11 for that DAY, told last", x.priceOf(0, 10, 4), 120);
        Due.is("11 as KNOWN in an earlier DAY", x.priceOf(0, 10, 3), 110);
        Due.is("11 the nearest DAY ahead", x.priceOf(0, 11, 4), 120);
        Due.is("11 one of no pence", x.priceOf(0, 19, 4), 0);
        Due.is("11 that wasn't KNOWN", x.priceOf(0, 19, 0), 110);
        Due.is("11 far behind", x.priceOf(0, 399, 4), 200);
        Due.is("11 another SORT", x.priceOf(1, 15, 0), 500);
        Due.is("11 a SORT without any", x.priceOf(3, 399, 4), 0);
        Due.is("11 sort 4", x.priceOf(4, 0, 0), BAD);
        Due.is("11 sort -1", x.priceOf(-1, 0, 0), BAD);
        Due.is("11 day 400", x.priceOf(0, 400, 0), BAD);
        Due.is("11 day -1", x.priceOf(0, -1, 0), BAD);
        Due.is("11 known -1", x.priceOf(0, 0, -1), BAD);
        Due.is("11 known behind DAY", x.priceOf(0, 0, 5), BAD);
        x.price(0, 20, 210);
        x.price(0, 5, 50);
        Due.is("11 an earlier DAY told later", x.priceOf(0, 25, 4), 210);
    }

    private static void feed() {
        DustYards x = new DustYards();
        Due.is("12 n 0", x.feed(0, 0), BAD);
        Due.is("12 n 9", x.feed(9, 0), BAD);
        Due.is("12 n -1", x.feed(-1, 0), BAD);
        Due.is("12 one byte", x.feed(1, 0x7a7a7a70L), 1);
        Due.is("12 two bytes", x.feed(2, 'a' + 'y' * 256L), 3);
        Due.is("12 the lowest first, the others not", x.text(), -100 - 3);
        for (int i = 1; i <= 19; i++) {
            Due.is("12 eight bytes", x.feed(8, -1L), 8 * i);
        }
        Due.is("12 behind 152", x.feed(7, 0), 159);
        Due.is("12 two where one has room", x.feed(2, 0), FULL);
        Due.is("12 to the last", x.feed(1, 0), 160);
        Due.is("12 FULL", x.feed(1, 0), FULL);
        Due.is("12 BAD ahead of FULL", x.feed(9, 0), BAD);
        Due.is("12 160 bytes", x.count(4), 160);
    }

    private static void textNumbers() {
        DustYards x = new DustYards();
        Due.feed(x, "pay 1;fine 2;find 3;");
        Due.is("13 bytes", x.count(4), 20);
        Due.is("13 its number", x.text(), 1);
        Due.is("13 THE TAPE is empty", x.count(4), 0);
        Due.is("13 a FAULT", Due.text(x, "pay 1;fine 2;find 3;find"), -120);
        Due.is("13 THE TAPE is empty by a FAULT, too", x.count(4), 0);
        Due.is("13 TEXTS", x.count(3), 2);
        for (int i = 2; i <= 5; i++) {
            Due.is("13 number", Due.text(x, "\n pay1 ;\nfine2;find 3 ; \n"), i);
        }
        Due.feed(x, "pay 1;");
        Due.is("13 FULL ahead of all", x.text(), FULL);
        Due.is("13 THE TAPE stays", x.count(4), 6);
        Due.is("13 six TEXTS", x.count(3), 6);
    }

    private static void textFaults() {
        fault("", 0);
        fault("  ", 2);
        fault("fine", 0);
        fault(" \npai 1", 2);
        fault("pay", 3);
        fault("pay 1 ", 6);
        fault("pay;", 3);
        fault("pay 1 2", 6);
        fault("pay 12345;", 4);
        fault("pay 1+12345;", 6);
        fault("pay 9999;fine 00001", 14);
        fault("pay weights;", 4);
        fault("pay weightday;", 4);
        fault("payweight;", 0);
        fault("pay Weight;", 4);
        fault("pay find;", 4);
        fault("pay 1;find 1;", 6);
        fault("pay 1;fine 1;fine 1;", 13);
        fault("pay 1;fine 1;find 1", 19);
        fault("pay 1;fine 1;find 1 ; ;", 22);
        fault("pay 1<2<3;", 7);
        fault("pay 1=2<3;", 7);
        fault("pay 1+not 1;", 6);
        fault("pay 1<not 1;", 6);
        fault("pay -not 1;", 5);
        fault("pay not;", 7);
        fault("pay 1 or;", 8);
        fault("pay 1 and or 1;", 10);
        fault("pay 1 and;", 9);
        fault("pay and 1;", 4);
        fault("pay 1 not 1;", 6);
        fault("pay 1+;", 6);
        fault("pay 1*;", 6);
        fault("pay 1<;", 6);
        fault("pay -;", 5);
        fault("pay (1+);", 7);
        fault("payz 1;", 0);
        fault("pay 1;fine 1;find 1;?", 20);
        fault("pay 1;fine 1;find 1;1", 20);
        fault("pay (1;", 6);
        fault("pay (1;)", 6);
        fault("pay 1);", 5);
        fault("pay ();", 5);
        fault("pay +1;", 4);
        fault("pay 1--*1;", 7);
        fault("pay 1**1;", 6);
        fault("pay 1\t;", 5);
        fault("pay 1\r;", 5);
        fault("pay 1>2;", 5);
        fault("pay 1" + (char) 225, 5);
        fault("pay 1" + (char) 0, 5);
        fault("pay 1 weight 12345 !", 6);
        fault("pay 12a;", 6);
        fault("pay 1day", 5);
        fault(" ".repeat(157) + "pay", 160);
        fault("pay " + "1+".repeat(78), 160);
    }

    private static void fault(String text, int place) {
        Due.is("13 \"" + text + "\"", Due.text(new DustYards(), text), -100 - place);
    }

    private static void textNests() {
        String rest = ";fine 1;find 1;";
        Due.is("13 five (", Due.text(new DustYards(), "pay (((((1)))))" + rest), 1);
        fault("pay ((((((1))))))" + rest, 9);
        Due.is("13 five -", Due.text(new DustYards(), "pay -----1" + rest), 1);
        fault("pay ------1" + rest, 9);
        Due.is("13 five not", Due.text(new DustYards(), "pay not not not not not 1" + rest), 1);
        fault("pay not not not not not not 1" + rest, 24);
        Due.is("13 five mixed", Due.text(new DustYards(), "pay not (not -(1))" + rest), 1);
        fault("pay not (not -(-(1)))" + rest, 15);
        fault("pay not(not(not(1)))" + rest, 15);
        fault("pay ((((-(1)))))" + rest, 9);
        fault("pay (((((not 1)))))" + rest, 9);
        Due.is("13 - of two is not counted", Due.text(new DustYards(), "pay (((((1-1)))))" + rest), 1);
        fault("pay (((((1--1)))))" + rest, 11);
        Due.is("13 ended ones are not counted",
                Due.text(new DustYards(), "pay (((((1)*(1)))))*-----1+(((((2)))))" + rest), 1);
        fault("pay (((((1)*((1))))))" + rest, 13);
        Due.is("13 ended not",
                Due.text(new DustYards(), "pay not not not not not 1 and not (((1))) or (((((1)))))" + rest), 1);
        fault("pay not not not not not 1=(1)" + rest, 26);
        Due.is("13 a - ends ahead of *", Due.text(new DustYards(), "pay -1*(((((1)))))" + rest), 1);
        fault("pay -(((((1)))))" + rest, 9);
    }

    private static void contract() {
        DustYards x = new DustYards();
        Due.is("14 parish -1", x.contract(-1, 0, 0), BAD);
        Due.is("14 parish 6", x.contract(6, 0, 0), BAD);
        Due.is("14 day -1", x.contract(0, -1, 0), BAD);
        Due.is("14 day 400", x.contract(0, 400, 0), BAD);
        Due.is("14 text -1", x.contract(0, 0, -1), BAD);
        Due.is("14 no such text", x.contract(0, 0, 1), BAD);
        Due.text(x, "pay 1;fine 1;find 1;");
        Due.is("14 a text that came", x.contract(0, 0, 1), 1);
        for (int i = 2; i <= 20; i++) {
            Due.is("14 how many", x.contract(5, 399, 0), i);
        }
        Due.is("14 FULL", x.contract(0, 0, 1), FULL);
        Due.is("14 BAD ahead of FULL", x.contract(0, 0, 2), BAD);
        Due.is("14 CONTRACTS", x.count(5), 20);
    }

    private static void contractOf() {
        DustYards x = new DustYards();
        for (int i = 1; i <= 4; i++) {
            Due.text(x, "pay 1;fine 1;find 1;");
        }
        x.contract(2, 10, 1);
        x.contract(2, 20, 2);
        x.contract(2, 20, 3);
        x.contract(2, 15, 4);
        x.contract(2, 30, 0);
        x.contract(1, 5, 2);
        Due.is("15 ahead of all", x.contractOf(2, 9), 0);
        Due.is("15 from its DAY", x.contractOf(2, 10), 1);
        Due.is("15 one told later", x.contractOf(2, 19), 4);
        Due.is("15 of several from one DAY", x.contractOf(2, 20), 3);
        Due.is("15 the last DAY of it", x.contractOf(2, 29), 3);
        Due.is("15 TEXT 0 by a CONTRACT", x.contractOf(2, 399), 0);
        Due.is("15 another PARISH", x.contractOf(1, 399), 2);
        Due.is("15 a PARISH without any", x.contractOf(0, 399), 0);
        Due.is("15 parish -1", x.contractOf(-1, 0), BAD);
        Due.is("15 parish 6", x.contractOf(6, 0), BAD);
        Due.is("15 day -1", x.contractOf(0, -1), BAD);
        Due.is("15 day 400", x.contractOf(0, 400), BAD);
    }

    private static void says() {
        DustYards x = new DustYards();
        x.cart(3, 1, 0, 40, 7, 0);
        Due.is("16 TEXT 0 pay", x.says(0, 0), -37);
        Due.is("16 TEXT 0 fine", x.says(0, 1), 0);
        Due.is("16 TEXT 0 find", x.says(0, 2), 1);
        x.door(1, 1, 0, 0);
        x.door(1, 1, 0, 0);
        x.miss(0);
        Due.is("16 TEXT 0 fine of one MISSED", x.says(0, 1), 5);
        x.miss(1);
        Due.is("16 TEXT 0 fine of two MISSED", x.says(0, 1), 10);
        Due.is("16 part 3", x.says(0, 3), NO);
        Due.is("16 part -1", x.says(0, -1), NO);
        Due.is("16 cart 1", x.says(1, 0), NO);
        Due.is("16 cart -1", x.says(-1, 0), NO);
        value("2+3*4", 14);
        value("2*3+4", 10);
        value("9-3-2", 4);
        value("9-3+2", 8);
        value("2-3*4-5", -15);
        value("(2-3)*(4-5)", 1);
        value("-2*-3", 6);
        value("--5", 5);
        value("-(2+3)", -5);
        value("1<2", 1);
        value("2<2", 0);
        value("2=1+1", 1);
        value("2=3", 0);
        value("-1<0", 1);
        value("0<-1", 0);
        value("(1<2)<3", 1);
        value("not 0", 1);
        value("not 7", 0);
        value("not not 7", 1);
        value("not 1=2", 1);
        value("not 0 and 0", 0);
        value("5 and 6", 1);
        value("5 and 0", 0);
        value("0 and 5", 0);
        value("0 or 6", 1);
        value("6 or 0", 1);
        value("0 or 0", 0);
        value("2 or 2 and 0", 1);
        value("(2 or 2) and 0", 0);
        value("(1 or 1)+(1 and 2)", 2);
        value("7", 7);
        value("0007", 7);
        value("9999*9999*9999", (long) (int) (9999L * 9999 * 9999));
        value("9999*9999*30<0", 1);
        value("0-9999*9999*21-9999*9999*1", (long) (int) (-9999L * 9999 * 22));
        value("-(9999*9999*40)", (long) (int) (-9999L * 9999 * 40));
        value("1-(2-(3-(4-(5-(6-7)))))", 4);
        value("1-(2-(3-(4-(5-6))))", -3);
    }

    /** An E as pay of a TEXT, and less that as its fine. */
    private static void value(String e, long due) {
        DustYards x = new DustYards();
        x.cart(0, 0, 0, 1, 0, 0);
        int text = Due.text(x, "pay " + e + ";fine 0-(" + e + ");find 1;");
        if (text < 0) {
            // An E that has five ( of its own can't stand in one more.
            text = Due.text(x, "pay " + e + ";fine 0;find 1;");
            due(x, e, text, due);
            return;
        }
        due(x, e, text, due);
        Due.is("16 less " + e, x.says(0, 1), (long) -(int) due);
    }

    private static void due(DustYards x, String e, int text, long due) {
        Due.is("16 contract for " + e, x.contract(0, 0, text), 1);
        Due.is("16 " + e, x.says(0, 0), due);
    }

    private static void saysNames() {
        DustYards x = new DustYards();
        x.pass(6);
        x.door(2, 1, 0, 0);
        x.door(2, 1, 0, 0);
        x.door(1, 1, 0, 0);
        x.miss(0);
        x.miss(1);
        x.miss(2);
        x.cart(4, 2, 0, 1234, 56, 9);
        x.price(0, 5, 77);
        x.price(1, 6, 99);
        x.pass(6);
        x.miss(0);
        x.cart(5, 2, 0, 1, 0, 0);
        Due.text(x, "pay weight;fine day;find wet;");
        Due.text(x, "pay kind;fine missed;find price;");
        x.contract(2, 0, 1);
        long[] due = {1234, 6, 56, 1, 12, 0};
        for (int i = 0; i < 6; i++) {
            Due.is("16 weight, day, wet of cart " + i / 3, x.says(i / 3, i % 3), due[i]);
        }
        x.contract(2, 0, 2);
        long[] others = {4, 2, 77, 5, 1, 77};
        for (int i = 0; i < 6; i++) {
            Due.is("16 kind, missed, price of cart " + i / 3, x.says(i / 3, i % 3), others[i]);
        }
        x.price(0, 6, 78);
        Due.is("16 price as KNOWN now", x.says(0, 2), 78);
        x.price(0, 7, 79);
        Due.is("16 price for the DAY of the cart", x.says(0, 2), 78);
    }

    private static void saysByTheDay() {
        DustYards x = new DustYards();
        x.cart(0, 0, 0, 10, 0, 0);
        x.pass(1);
        x.cart(0, 0, 0, 10, 0, 0);
        x.cart(0, 1, 0, 10, 0, 0);
        Due.text(x, "pay 100;fine 0;find 0;");
        x.contract(0, 1, 1);
        Due.is("16 TEXT 0 of its DAY", x.says(0, 0), -7);
        Due.is("16 the CONTRACT of its DAY", x.says(1, 0), 100);
        Due.is("16 another PARISH", x.says(2, 0), -7);
    }

    private static void owed() {
        DustYards x = new DustYards();
        Due.is("17 no carts", x.owed(0, 0, 399), 0);
        Due.text(x, "pay weight*1000*1000;fine weight-5;find 0;");
        x.contract(0, 0, 1);
        x.cart(0, 0, 0, 2000, 0, 0);
        x.cart(0, 0, 0, 2100, 0, 0);
        x.cart(0, 1, 0, 2100, 0, 0);
        x.pass(2);
        x.cart(0, 0, 0, 3, 0, 0);
        x.cart(0, 0, 0, 7, 0, 0);
        Due.is("17 of two carts, no wrap", x.owed(0, 0, 0), 4100000000L - 1995 - 2095);
        Due.is("17 each fine is 0 at least", x.owed(0, 1, 2), 10000000L - 2);
        Due.is("17 all", x.owed(0, 0, 399), 4110000000L - 1995 - 2095 - 2);
        Due.is("17 between", x.owed(0, 1, 1), 0);
        Due.is("17 one DAY", x.owed(0, 2, 2), 10000000L - 2);
        Due.is("17 another PARISH, TEXT 0", x.owed(1, 0, 2), -2097);
        Due.is("17 parish -1", x.owed(-1, 0, 0), NO);
        Due.is("17 parish 6", x.owed(6, 0, 0), NO);
        Due.is("17 from -1", x.owed(0, -1, 0), NO);
        Due.is("17 to 400", x.owed(0, 0, 400), NO);
        Due.is("17 from 400", x.owed(0, 400, 400), NO);
        Due.is("17 to ahead of from", x.owed(0, 2, 1), NO);
    }

    private static void find() {
        DustYards x = new DustYards();
        Due.is("18 no cart", x.find(0, 0, 0), BAD);
        x.cart(0, 0, 0, 10, 0, 0);
        Due.is("18 cart -1", x.find(-1, 0, 0), BAD);
        Due.is("18 hand -1", x.find(0, -1, 0), BAD);
        Due.is("18 hand 10", x.find(0, 10, 0), BAD);
        Due.is("18 worth -1", x.find(0, 0, -1), BAD);
        Due.is("18 worth 10000", x.find(0, 0, 10000), BAD);
        for (int i = 0; i < 20; i++) {
            Due.is("18 number", x.find(0, i % 2 * 9, i % 3 == 0 ? 9999 : 0), i);
        }
        Due.is("18 FULL", x.find(0, 0, 0), FULL);
        Due.is("18 BAD ahead of FULL", x.find(1, 0, 0), BAD);
        Due.is("18 FINDS", x.count(6), 20);
        Due.is("18 all of them", x.finds(10), 7 * 9999);
    }

    private static void whose() {
        DustYards x = new DustYards();
        Due.is("19 no FIND", x.whose(0), BAD);
        for (int w = 1; w <= 7; w++) {
            x.cart(0, 0, 0, w, 0, 0);
            x.find(w - 1, 0, 0);
        }
        Due.is("19 TEXT 0", x.whose(6), 1);
        Due.text(x, "pay 0;fine 0;find weight-4;");
        x.contract(0, 0, 1);
        int[] due = {0, 1, 2, 0, 1, 2, 0};
        for (int f = 0; f < 7; f++) {
            Due.is("19 modulo 3 of " + (f - 3), x.whose(f), due[f]);
        }
        Due.is("19 find 7", x.whose(7), BAD);
        Due.is("19 find -1", x.whose(-1), BAD);
    }

    private static void finds() {
        DustYards x = new DustYards();
        Due.text(x, "pay 0;fine 0;find weight;");
        for (int p = 0; p < 6; p++) {
            x.contract(p, 0, 1);
        }
        for (int p = 0; p < 3; p++) {
            for (int w = 1; w <= 3; w++) {
                int cart = x.cart(0, p == 2 ? 5 : p, 0, w, 0, 0);
                x.find(cart, p == 2 ? 9 : 0, 1 << cart);
                x.find(cart, 4, 1000);
            }
        }
        Due.is("20 HAND 0's", x.finds(0), 4 + 32);
        Due.is("20 HAND 9's", x.finds(9), 256);
        Due.is("20 HAND 4's", x.finds(4), 3000);
        Due.is("20 HAND 1's", x.finds(1), 0);
        Due.is("20 the yard's", x.finds(10), 1 + 8 + 64 + 3000);
        Due.is("20 PARISH 0's", x.finds(11), 2 + 1000);
        Due.is("20 PARISH 1's", x.finds(12), 16 + 1000);
        Due.is("20 PARISH 2's", x.finds(13), 0);
        Due.is("20 PARISH 5's", x.finds(16), 128 + 1000);
        Due.is("20 who 17", x.finds(17), NO);
        Due.is("20 who -1", x.finds(-1), NO);
    }
}
