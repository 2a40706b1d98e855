/** Promises 12, 13, 16: the tape, texts and what they come to; each sentence that names an edge. */
public final class TextsEdgesTest {
    private static final int BAD = DustYards.BAD, FULL = DustYards.FULL;
    private static final String REST = ";fine 1;find 1;";

    private TextsEdgesTest() {
    }

    public static void main(String[] args) {
        feedTakesTheLowestBytes();
        feedTo160();
        aTapeOf160();
        anEmptyTape();
        eachByteBehindANumber();
        eachByteAtTheBegin();
        eachByteBehindAWord();
        eachByteBehindASign();
        blanks();
        numbersOf4();
        wordsAsLongAsCanBe();
        signsAreOneByte();
        endsTooEarly();
        thePartsInTheirOrder();
        nothingBehindTheLast();
        keysAreNoNames();
        eachKeyHasItsPlace();
        whatCanStandWhere();
        whatCanStandNowhere();
        fiveAreOpen();
        openTillTheyEnd();
        openBehindEachJoint();
        asManyAsHaveRoom();
        theFirstFault();
        sixTexts();
        wrapsAround();
        truth();
        bindsAsTold();
        deepTexts();
        Due.end();
    }

    private static void fault(String text, int place) {
        DustYards x = new DustYards();
        Due.is("13 \"" + text + "\"", Due.text(x, text), -100 - place);
        Due.is("13 THE TAPE is empty by a FAULT, too", x.count(4), 0);
        Due.is("13 no TEXT by a FAULT", x.count(3), 1);
    }

    private static void fine(String text) {
        DustYards x = new DustYards();
        Due.is("13 \"" + text + "\"", Due.text(x, text), 1);
        Due.is("13 THE TAPE is empty", x.count(4), 0);
        Due.is("13 a TEXT more", x.count(3), 2);
    }

    private static void value(String e, long due) {
        DustYards x = new DustYards();
        x.cart(5, 0, 0, 1234, 9, 0);
        Due.is("16 a TEXT: " + e, Due.text(x, "pay " + e + ";fine 0;find 0;"), 1);
        x.contract(0, 0, 1);
        Due.is("16 " + e, x.says(0, 0), due);
    }

    private static void feedTakesTheLowestBytes() {
        String text = "pay 1;fi";
        long bytes = 0;
        for (int i = 7; i >= 0; i--) {
            bytes = bytes << 8 | text.charAt(i);
        }
        for (int n = 1; n <= 8; n++) {
            DustYards x = new DustYards();
            Due.is("12 n " + n, x.feed(n, bytes), n);
            // "pa" is no KEY; "pay", "pay ", "pay 1", "pay 1;" end too early; "f", "fi" are no KEYS.
            int place = n < 3 ? 0 : n < 7 ? n : 6;
            Due.is("12 the n lowest, the lowest first: " + n, x.text(), -100 - place);
        }
        DustYards x = new DustYards();
        Due.is("12 a number below 0", x.feed(8, -1L), 8);
        Due.is("12 255 begins nothing", x.text(), -100);
        Due.is("12 n 0", x.feed(0, bytes), BAD);
        Due.is("12 n 9", x.feed(9, bytes), BAD);
        Due.is("12 THE TAPE stays empty", x.count(4), 0);
    }

    private static void feedTo160() {
        for (int n = 1; n <= 8; n++) {
            DustYards x = new DustYards();
            for (int i = 0; i < 19; i++) {
                x.feed(8, 0x2020202020202020L);
            }
            for (int i = n; i < 8; i++) {
                x.feed(1, ' ');
            }
            if (n < 8) {
                Due.is("12 one too many for " + n, x.feed(n + 1, -1), FULL);
            }
            Due.is("12 the last " + n, x.feed(n, 0x2020202020202020L), 160);
            Due.is("12 FULL", x.feed(1, -1), FULL);
            Due.is("12 what was refused isn't there", x.text(), -260);
            Due.is("12 there is room again", x.feed(8, 0), 8);
        }
    }

    private static void aTapeOf160() {
        String behind = ";fine weight;find kind;";
        String full = "pay 1" + " ".repeat(160 - 5 - behind.length()) + behind;
        Due.is("160 bytes", full.length(), 160);
        DustYards x = new DustYards();
        x.cart(5, 0, 0, 77, 0, 0);
        Due.is("13 a TEXT of 160 bytes", Due.text(x, full), 1);
        x.contract(0, 0, 1);
        Due.is("13 its last part", x.says(0, 2), 5);
        String sum = "pay 1" + "+1".repeat(70) + ";fine 1;find 1;";
        Due.is("160 bytes", sum.length(), 160);
        Due.is("13 a SUM of 160 bytes", Due.text(x, sum), 2);
        x.contract(0, 0, 2);
        Due.is("13 what it comes to", x.says(0, 0), 71);
        Due.is("13 a FAULT in the last byte", Due.text(x, sum.substring(0, 159) + "?"), -100 - 159);
        Due.is("13 the last byte is a WORD's", Due.text(x, sum.substring(0, 159) + "a"), -100 - 159);
        Due.is("13 160 bytes that end too early", Due.text(x, sum.substring(0, 159) + "2"), -260);
    }

    private static void anEmptyTape() {
        fault("", 0);
        DustYards x = new DustYards();
        Due.is("13 nothing was fed", x.text(), -100);
        Due.is("13 nor then", x.text(), -100);
    }

    private static void eachByteBehindANumber() {
        for (int b = 0; b < 256; b++) {
            boolean goesOn = b == 32 || b == 10 || b >= '0' && b <= '9' || ";+-*<=".indexOf(b) >= 0;
            // What can stand there leaves the text too short; all else is the FAULT itself.
            fault("pay 1" + (char) b, goesOn ? 6 : 5);
        }
    }

    private static void eachByteAtTheBegin() {
        for (int b = 0; b < 256; b++) {
            boolean isBlank = b == 32 || b == 10;
            if (isBlank) {
                fine((char) b + "pay 1" + REST);
            } else {
                fault((char) b + "pay 1" + REST, 0);
            }
        }
    }

    private static void eachByteBehindAWord() {
        for (int b = 0; b < 256; b++) {
            boolean isLetter = b >= 'a' && b <= 'z';
            boolean goesOn = b == 32 || b == 10 || ";+-*<=".indexOf(b) >= 0;
            // A letter makes it another WORD, which is neither KEY nor NAME; no other byte does.
            fault("pay weight" + (char) b, isLetter ? 4 : goesOn ? 11 : 10);
            boolean canStand = b == 32 || b == 10 || b == '(' || b == '-' || b >= '0' && b <= '9';
            fault("pay" + (char) b, isLetter ? 0 : canStand ? 4 : 3);
        }
    }

    private static void eachByteBehindASign() {
        for (int b = 0; b < 256; b++) {
            boolean canStand = b == 32 || b == 10 || b == '(' || b == '-' || b >= '0' && b <= '9';
            fault("pay 1+" + (char) b, canStand ? 7 : 6);
            fault("pay (" + (char) b, canStand ? 6 : 5);
        }
    }

    private static void blanks() {
        fine(" \n pay\n1 \n;\nfine 1 ; \nfind\n\n1\n;\n ");
        fine("pay 1;fine 1;find 1;");
        fine("pay(1);fine-1;find(1);");
        fine("pay 1and 1or 1;fine 1;find 1;");
        fine("pay not(1);fine 1;find 1;");
        fault("pay1fine", 4);
        fault("p ay 1" + REST, 0);
        fault("pay 1 2" + REST, 6);
        fault("pay we ight" + REST, 4);
        fault("pay\t1" + REST, 3);
        fault("pay\r\n1" + REST, 3);
        fault("pay" + (char) 160 + "1" + REST, 3);
        fault("pay" + (char) 11 + "1" + REST, 3);
        fault("pay" + (char) 31 + "1" + REST, 3);
        fault("pay" + (char) 33 + "1" + REST, 3);
        fault("pay" + (char) 9 + "1" + REST, 3);
    }

    private static void numbersOf4() {
        value("0", 0);
        value("9999", 9999);
        value("0000", 0);
        value("0099", 99);
        fault("pay 10000" + REST, 4);
        fault("pay 00000" + REST, 4);
        fault("pay 00001" + REST, 4);
        fault("pay 99999999999999999999" + REST, 4);
        fault("pay 1+10000" + REST, 6);
        fault("pay 12345", 4);
        value("9999+1", 10000);
    }

    private static void wordsAsLongAsCanBe() {
        fault("payweight" + REST, 0);
        fault("paypay 1" + REST, 0);
        fault("pay dayday" + REST, 4);
        fault("pay da" + REST, 4);
        fault("pay days" + REST, 4);
        fault("pay wets" + REST, 4);
        fault("pay kindy" + REST, 4);
        fault("pay mis" + REST, 4);
        fault("pay prices" + REST, 4);
        fault("pay 1 andnot 1" + REST, 6);
        fault("pay notnot 1" + REST, 4);
        fault("pay 1 ora 1" + REST, 6);
        fault("pay a" + REST, 4);
        fault("pay z" + REST, 4);
        fault("pay WEIGHT" + REST, 4);
        fault("pay weiGht" + REST, 4);
        fault("Pay 1" + REST, 0);
        fault("pay 1;fin 1;", 6);
        fault("pay 1;fines 1;", 6);
        fault("pay 1;fine 1;fin 1;", 13);
        fault("pay 1;fine 1;finds 1;", 13);
        value("weight1".substring(0, 6), 1234);
        fault("pay weight1" + REST, 10);
    }

    private static void signsAreOneByte() {
        fault("pay 1<=2" + REST, 6);
        fault("pay 1==2" + REST, 6);
        fault("pay 1++2" + REST, 6);
        fault("pay 1**2" + REST, 6);
        fault("pay 1<<2" + REST, 6);
        value("1--2", 3);
        value("1---2", -1);
        value("1+-2", -1);
        value("1*-2", -2);
        value("1<-2", 0);
        value("1=-2", 0);
    }

    private static void endsTooEarly() {
        String text = "pay 1+2*(3);fine not 1<2;find 1 or 2 and 3;";
        // Where the text is cut off within a WORD, what is left of it is the FAULT.
        int[] begins = {0, 0, 12, 12, 12, 17, 17, 25, 25, 25, 32, 37, 37};
        int[] cuts = {1, 2, 13, 14, 15, 18, 19, 26, 27, 28, 33, 38, 39};
        for (int size = 0; size < text.length(); size++) {
            int due = size;
            for (int i = 0; i < cuts.length; i++) {
                due = cuts[i] == size ? begins[i] : due;
            }
            fault(text.substring(0, size), due);
        }
        fine(text);
        fault("pay 1;fine 1;find 1 \n ", 22);
        fault("pay 1;fine 1;find \n", 19);
        fault(" ", 1);
        fault("\n\n\n", 3);
    }

    private static void thePartsInTheirOrder() {
        fault("fine 1;pay 1;find 1;", 0);
        fault("pay 1;find 1;fine 1;", 6);
        fault("pay 1;pay 1;find 1;", 6);
        fault("pay 1;fine 1;pay 1;", 13);
        fault("pay 1;fine 1;fine 1;", 13);
        fault("pay 1 fine 1;find 1;", 6);
        fault("pay 1;;fine 1;find 1;", 6);
        fault("pay;fine 1;find 1;", 3);
        fault("pay 1;fine;find 1;", 10);
        fault("pay 1;fine 1;find;", 17);
        fault("1;fine 1;find 1;", 0);
        fault(";pay 1;fine 1;find 1;", 0);
    }

    private static void nothingBehindTheLast() {
        fault("pay 1;fine 1;find 1;;", 20);
        fault("pay 1;fine 1;find 1;pay 1;fine 1;find 1;", 20);
        fault("pay 1;fine 1;find 1; 7", 21);
        fault("pay 1;fine 1;find 1; weight", 21);
        fault("pay 1;fine 1;find 1; nix", 21);
        fault("pay 1;fine 1;find 1; or", 21);
        fault("pay 1;fine 1;find 1;?", 20);
        fault("pay 1;fine 1;find 1;\n)", 21);
        fault("pay 1;fine 1;find 1;12345", 20);
        fault("pay 1;fine 1;find 1;" + (char) 0, 20);
        fine("pay 1;fine 1;find 1; ");
        fine("pay 1;fine 1;find 1;\n");
    }

    private static void keysAreNoNames() {
        for (String key : new String[] {"pay", "fine", "find", "or", "and"}) {
            fault("pay " + key + REST, 4);
            fault("pay 1+" + key + REST, 6);
            fault("pay (" + key + ")" + REST, 5);
        }
        for (String name : new String[] {"weight", "day", "wet", "kind", "missed", "price"}) {
            fine("pay " + name + REST);
            fault(name + " 1" + REST, 0);
            fault("pay 1 " + name + REST, 6);
        }
    }

    /** Each KEY or NAME in the place of each KEY: only the one that is due can stand there. */
    private static void eachKeyHasItsPlace() {
        String[] text = {"pay", "not", "1", "or", "2", "and", "3", ";", "fine", "4", ";", "find", "5", ";"};
        String[] words = {"pay", "fine", "find", "or", "and", "not", "weight", "day", "wet", "kind", "missed", "price"};
        for (int at = 0; at < text.length; at++) {
            for (String word : words) {
                String[] other = text.clone();
                other[at] = word;
                String joined = String.join(" ", other);
                boolean isName = "weight day wet kind missed price".contains(word);
                boolean joins = word.equals("or") || word.equals("and");
                boolean isOne = Character.isDigit(text[at].charAt(0));
                boolean isJoint = text[at].equals("or") || text[at].equals("and");
                int place = String.join(" ", java.util.Arrays.copyOf(other, at)).length() + (at == 0 ? 0 : 1);
                if (word.equals(text[at]) || isOne && isName || isJoint && joins) {
                    fine(joined);
                } else if (text[at].equals("not") && isName || isOne && word.equals("not")
                        || text[at].equals(";") && joins) {
                    // It can stand there itself, but what follows it can't; or nothing follows it.
                    fault(joined, Math.min(place + word.length() + 1, joined.length()));
                } else {
                    fault(joined, place);
                }
            }
        }
    }

    private static void whatCanStandWhere() {
        String[] ones = {"1", "weight", "(1)", "-1"};
        String[] signs = {"+", "-", "*", "<", "=", " or ", " and "};
        for (String one : ones) {
            for (String sign : signs) {
                fine("pay " + one + sign + one + REST);
                fault("pay " + one + sign + ";", 4 + (one + sign).length());
                fault("pay (" + one + sign + ");", 5 + (one + sign).length());
            }
        }
        for (String sign : new String[] {"+", "*", "<", "=", ")", ";"}) {
            fault("pay " + sign + "1" + REST, 4);
            fault("pay -" + sign + "1" + REST, 5);
            fault("pay not " + sign + "1" + REST, 8);
            fault("pay (" + sign + "1" + REST, 5);
        }
        for (String sign : new String[] {"+", "-", "*", "<", "="}) {
            fault("pay 1" + sign + "not 1" + REST, 6);
        }
        fault("pay -not 1" + REST, 5);
        fault("pay 1 not 1" + REST, 6);
        fine("pay 1 and not 1 or not not 1" + REST);
        fine("pay (not 1)+(1 or 1)" + REST);
        fault("pay 1<2=3" + REST, 7);
        fault("pay 1=2=3" + REST, 7);
        fine("pay (1<2)=3" + REST);
        fine("pay not 1<2 and 3=4" + REST);
        fault("pay (1" + REST, 6);
        fault("pay 1)" + REST, 5);
        fault("pay (1))" + REST, 7);
        fault("pay (1 1)" + REST, 7);
        fault("pay 1(1)" + REST, 5);
        fault("pay (1)(1)" + REST, 7);
    }

    /** In the place of each TOKEN, and between all: a NUMBER that is too long, a WORD that is none, other bytes. */
    private static void whatCanStandNowhere() {
        String[] text = {"pay", "not", "(", "1", "+", "-", "2", ")", "*", "3", "<", "weight", "-", "4", "or", "5", "=",
            "6", "and", "7", ";", "fine", "8", ";", "find", "9", ";"};
        fine(String.join(" ", text));
        String[] nothings = {"12345", "00000", "123456789012345678901", "nix", "payy", "fin", "?", ">", "/", ",", ":",
            "\t", "A", "" + (char) 127, "" + (char) 128, "" + (char) 255, "" + (char) 0};
        for (String nothing : nothings) {
            StringBuilder ahead = new StringBuilder();
            for (String token : text) {
                fault(ahead + nothing + " " + token, ahead.length());
                fault(ahead + nothing, ahead.length());
                ahead.append(token).append(' ');
            }
            fault(ahead + nothing, ahead.length());
        }
    }

    private static void fiveAreOpen() {
        // Each way in which six could stand open: the sixth is the FAULT, and five are fine.
        String[] opens = {"(", "-", "not "};
        int ways = 3 * 3 * 3 * 3 * 3 * 3;
        for (int way = 0; way < ways; way++) {
            StringBuilder ahead = new StringBuilder();
            StringBuilder behind = new StringBuilder();
            int rest = way;
            boolean notCanStand = true;
            int sixth = 0;
            boolean isText = true;
            for (int i = 0; i < 6; i++) {
                int open = rest % 3;
                rest /= 3;
                if (open == 2 && !notCanStand) {
                    isText = false;
                    break;
                }
                notCanStand = open != 1;
                if (i == 5) {
                    sixth = ahead.length();
                    fine("pay " + ahead + "1" + behind + REST);
                }
                ahead.append(opens[open]);
                behind.insert(0, open == 0 ? ")" : "");
            }
            if (isText) {
                fault("pay " + ahead + "1" + behind + REST, 4 + sixth);
            }
        }
    }

    private static void openTillTheyEnd() {
        fine("pay (((((1)))))+(((((1)))))" + REST);
        fine("pay (((((1)+(1)))))" + REST);
        fault("pay (((((1)+((1))))))" + REST, 13);
        // The first - behind the 1 is the SUM's.
        fine("pay -----1------1" + REST);
        fault("pay -----1-------1" + REST, 16);
        fine("pay not not not not not 1 or not not not not not 1" + REST);
        fault("pay not not not not not 1+(1)" + REST, 26);
        fault("pay not not not not not 1+1<-1" + REST, 28);
        fine("pay not not not not not 1 and (1)" + REST);
        fine("pay not not not not not 1 and -1" + REST);
        fine("pay -(-(-1))*-(-(-1))" + REST);
        fault("pay (-(-(-1)))" + REST, 9);
        fine("pay 1;fine (((((1)))));find -----1;");
        fine("pay (((((1)))));fine not not not not not 1;find (((((1)))));");
        fault("pay 1;fine 1;find ((((((1))))));", 23);
        fine("pay (((((1-1-1)))))" + REST);
        fault("pay (((((-1)))))" + REST, 9);
        fault("pay (((((1*-1)))))" + REST, 11);
        fault("pay (((((1 and not 1)))))" + REST, 15);
        // A sixth that could not stand there anyhow.
        fault("pay (((((1(", 10);
    }

    /** What stands open around a joint stands open on both its sides; what ended there does not. */
    private static void openBehindEachJoint() {
        for (String joint : new String[] {"+", "-", "*", "<", "=", " or ", " and "}) {
            String five = "pay (((((1" + joint;
            fine(five + "1)))))" + REST);
            fault(five + "(1))))))" + REST, five.length());
            fault(five + "-1)))))" + REST, five.length());
            String four = "pay ((((1" + joint;
            fine(four + "(1)))))" + REST);
            fault(four + "((1))))))" + REST, four.length() + 1);
            fine(four + "-1))))" + REST);
            fault(four + "--1))))" + REST, four.length() + 1);
            boolean joinsNots = joint.length() > 1;
            fault(five + "not 1)))))" + REST, five.length());
            fault(four + "not not 1))))" + REST, four.length() + (joinsNots ? 4 : 0));
            if (joinsNots) {
                fine(four + "not 1))))" + REST);
            }
        }
        for (String joint : new String[] {"+", "-", "*", " or ", " and "}) {
            String eight = "pay 1" + (joint + "1").repeat(7) + joint;
            fine(eight + "(((((1)))))" + REST);
            fine(eight + "-----1" + REST);
            fault(eight + "((((((1))))))" + REST, eight.length() + 5);
            String eightInFive = "pay (((((1" + (joint + "1").repeat(7) + joint;
            fine(eightInFive + "1)))))" + REST);
            fault(eightInFive + "(1))))))" + REST, eightInFive.length());
        }
    }

    private static void chain(String e, long due) {
        Due.is("160 bytes: " + e, ("pay " + e + ";fine 0;find 0;").length(), 160);
        value(e, due);
    }

    private static void asManyAsHaveRoom() {
        chain("1" + "+1".repeat(70), 71);
        chain("1" + "-1".repeat(70), -69);
        chain("5" + "*1".repeat(69) + "*7", 35);
        chain("0" + "or 0".repeat(34) + "or 7", 1);
        chain("0" + "or 0".repeat(35), 0);
        chain("5" + "and 7".repeat(28), 1);
        chain("5" + "and 7".repeat(27) + "and 0", 0);
    }

    private static void theFirstFault() {
        fault("pay ? 12345 nix;", 4);
        fault("pay 12345 ? nix;", 4);
        fault("pay nix 12345 ?;", 4);
        fault("pay 1 1 12345 ?;", 6);
        fault("pay 1;nix;?", 6);
        fault("pay ((((((12345", 9);
        fault("pay (((((12345", 9);
    }

    private static void sixTexts() {
        DustYards x = new DustYards();
        for (int i = 1; i <= 5; i++) {
            Due.is("13 its number", Due.text(x, "pay " + i + ";fine 0;find 0;"), i);
            Due.is("13 a FAULT takes no number", i < 5 ? Due.text(x, "pay") : -103, -103);
        }
        Due.is("13 FULL by an empty TAPE", x.text(), FULL);
        Due.feed(x, "pay 6;fine 0;find 0;");
        Due.is("13 FULL by a TEXT", x.text(), FULL);
        Due.is("13 THE TAPE stays", x.count(4), 20);
        Due.feed(x, "?");
        Due.is("13 FULL ahead of a FAULT", x.text(), FULL);
        Due.is("13 THE TAPE stays, too", x.count(4), 21);
        Due.is("13 TEXTS", x.count(3), 6);
        x.cart(0, 0, 0, 10, 0, 0);
        for (int i = 0; i <= 5; i++) {
            x.contract(0, 0, i);
            Due.is("13 TEXT " + i + " is as it was", x.says(0, 0), i == 0 ? -7 : i);
        }
    }

    private static void wrapsAround() {
        String min = "2048*1024*1024";
        value(min, Integer.MIN_VALUE);
        value(min + "-1", Integer.MAX_VALUE);
        value(min + "-1+1", Integer.MIN_VALUE);
        value("-(" + min + ")", Integer.MIN_VALUE);
        value("0-" + min, Integer.MIN_VALUE);
        value("-(" + min + "-1)", -Integer.MAX_VALUE);
        value("-(" + min + "-1)-2", Integer.MAX_VALUE);
        value(min + "+" + min, 0);
        value(min + "*2", 0);
        value("-(" + min + ")*-1", Integer.MIN_VALUE);
        value("2048*2048*1024", 0);
        value("(" + min + "-1)*(" + min + "-1)", 1);
        value("not 2048*2048*1024", 1);
        value(min + "<" + min + "-1", 1);
        value(min + "-1<" + min, 0);
        value(min + "-1<0-1", 0);
        value("-(" + min + ")=" + min, 1);
    }

    private static void truth() {
        value("not -1", 0);
        value("-1 and -2", 1);
        value("-1 or 0", 1);
        value("1 and -(1-1)", 0);
        value("2 and 4", 1);
        value("not 2048*1024*1024", 0);
        value("2048*1024*1024 and 1", 1);
        value("2048*1024*1024 or 0", 1);
        value("0 or 0 or 5", 1);
        value("1 and 2 and 0", 0);
        value("0<0", 0);
        value("0=0", 1);
        value("-1<-1", 0);
        value("-2<-1", 1);
        value("7 or 7", 1);
    }

    private static void bindsAsTold() {
        value("1 or 0 and 0", 1);
        value("0 and 0 or 1", 1);
        value("not 1 or 1", 1);
        value("not (1 or 1)", 0);
        value("not 0 and 0", 0);
        value("not 2=3", 1);
        value("not 5<3+1", 1);
        value("(not 5)<3", 1);
        value("not not 5+1", 1);
        value("1<2+3", 1);
        value("1+2<3", 0);
        value("1+2=3", 1);
        value("10-2-3", 5);
        value("10-(2-3)", 11);
        value("2+3*4", 14);
        value("2*3+4", 10);
        value("-2+3", 1);
        value("-(2+3)", -5);
        value("-2*3", -6);
        value("- -2-2", 0);
        value("100-weight*wet-kind", 100 - 1234 * 9 - 5);
    }

    private static void deepTexts() {
        StringBuilder deep = new StringBuilder("1");
        for (int i = 0; i < 5; i++) {
            deep.insert(0, "1 or 2 and 3<4+5*(").append(")");
        }
        value(deep.toString(), 1);
        value("1-(2*(3-(4*(5-(6*7)))))", 1 - 2 * (3 - 4 * (5 - 42)));
        value("9<(8<(7<(6<(5<(4)))))", 0);
        value("not (not (not 1<2))", 0);
    }
}
