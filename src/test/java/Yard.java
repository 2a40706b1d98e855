/** A yard that is asked by a call's name and numbers: the class itself, or its second writing. */
interface Yard {
    long ask(String call, int... n);

    long feed(int n, long bytes);

    static Yard of(DustYards x) {
        return new Yard() {
            @Override
            public long ask(String call, int... n) {
                return Asked.of(x, call, n);
            }

            @Override
            public long feed(int n, long bytes) {
                return x.feed(n, bytes);
            }
        };
    }

    static Yard of(Model model) {
        return new Yard() {
            @Override
            public long ask(String call, int... n) {
                return model.ask(call, n);
            }

            @Override
            public long feed(int n, long bytes) {
                return model.feed(n, bytes);
            }
        };
    }

    /** A text comes onto THE TAPE, eight bytes a call. */
    default void tape(String text) {
        for (int at = 0; at < text.length(); at += 8) {
            int n = Math.min(8, text.length() - at);
            long bytes = 0;
            for (int i = n - 1; i >= 0; i--) {
                bytes = bytes << 8 | text.charAt(at + i) & 255;
            }
            feed(n, bytes);
        }
    }

    default long text(String text) {
        tape(text);
        return ask("text");
    }
}
