import java.util.Random;

/** Texts for random runs: most can be read, some have one byte too many, too few or another one. */
final class RandomTexts {
    private static final String[] ATOMS = {"weight", "day", "wet", "kind", "missed", "price", "0", "1", "2", "7",
        "9999", "0100"};
    private static final String[] SIGNS = {"+", "-", "*", "<", "=", " or ", " and "};
    private static final String BYTES = "( ) ;+-*<=\n0123456789abdefghikmnoprstuwy>,A";

    private RandomTexts() {
    }

    static String text(Random random) {
        int size = 1 + random.nextInt(5);
        StringBuilder text = new StringBuilder();
        for (String key : new String[] {"pay", "fine", "find"}) {
            text.append(blank(random)).append(key).append(' ').append(e(random, random.nextInt(size + 1), 0));
            text.append(blank(random)).append(';');
        }
        text.append(blank(random));
        if (random.nextInt(3) == 0) {
            spoil(random, text);
        }
        return text.toString();
    }

    private static String blank(Random random) {
        int n = random.nextInt(8);
        return n == 0 ? " " : n == 1 ? "\n" : "";
    }

    private static String e(Random random, int size, int open) {
        if (size <= 0) {
            return ATOMS[random.nextInt(ATOMS.length)];
        }
        // Now and then one more than may be open.
        boolean opens = open < 5 || random.nextInt(30) == 0;
        switch (random.nextInt(6)) {
            case 0:
                return opens ? "(" + e(random, size, open + 1) + ")" : e(random, size - 1, open);
            case 1:
                return opens ? "-" + e(random, size - 1, open + 1) : e(random, size - 1, open);
            case 2:
                return opens && open == 0 ? "not " + e(random, size - 1, open + 1) : e(random, size - 1, open);
            default:
                return e(random, (size - 1) / 2, open) + blank(random) + SIGNS[random.nextInt(SIGNS.length)]
                        + blank(random) + e(random, size / 2, open);
        }
    }

    private static void spoil(Random random, StringBuilder text) {
        int at = random.nextInt(text.length());
        char other = random.nextInt(10) == 0 ? (char) random.nextInt(256)
                : BYTES.charAt(random.nextInt(BYTES.length()));
        switch (random.nextInt(4)) {
            case 0:
                text.insert(at, other);
                break;
            case 1:
                text.deleteCharAt(at);
                break;
            case 2:
                text.setCharAt(at, other);
                break;
            default:
                text.setLength(at);
                break;
        }
    }
}
