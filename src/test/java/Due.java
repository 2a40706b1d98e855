/** Compares answers with what is due, and counts; the closing of each test of the project. */
final class Due {
    private static int right = 0;
    private static int wrong = 0;

    private Due() {
    }

    /** One answer: what tells which promise and call it is of. */
    static void is(String what, long got, long want) {
        if (got == want) {
            right++;
            return;
        }
        wrong++;
        System.out.println(what + " answered " + got + ", due is " + want);
    }

    /** A text comes onto THE TAPE, eight bytes a call. */
    static void feed(DustYards x, String text) {
        for (int at = 0; at < text.length(); at += 8) {
            int n = Math.min(8, text.length() - at);
            long bytes = 0;
            for (int i = 0; i < n; i++) {
                bytes |= (long) (text.charAt(at + i) & 255) << (8 * i);
            }
            x.feed(n, bytes);
        }
    }

    /** What text() answers for a text that is fed to an empty TAPE. */
    static int text(DustYards x, String text) {
        feed(x, text);
        return x.text();
    }

    static void end() {
        System.out.println(right + " answers are as due, " + wrong + " are not");
        if (wrong != 0 || right == 0) {
            System.exit(1);
        }
    }
}
