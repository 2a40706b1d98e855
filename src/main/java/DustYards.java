import java.util.Arrays;

/**
 * Dust yards: carts, heaps, stock, prices, contracts, doors, bids, hands, barges, buyers and the
 * host's sheets, as ../shared/DOC.md promises them. Words in capitals there are names here.
 *
 * <p>All rows are made by the constructor and used again, so that no call makes an object.
 */
public final class DustYards {
    public static final int NONE = -1, BAD = -2, STATE = -3, FULL = -4;
    public static final long NO = -4611686018427387904L;

    private static final int NOTHING = -11, OUTSIDE = -12, UNLIKE = -13, BELOW_ZERO = -14;
    private static final int FAULT_AT_ZERO = -100;

    private static final int LAST_DAY = 399, MOST_DAYS_AT_ONCE = 60, WEEKDAYS = 6;
    private static final int PARISHES = 6, HEAPS = 5, SORTS = 4, KINDS = 6, HANDS = 10;
    private static final int BREEZE = 0, SOIL = 1, WASTE = 4, BURNT = 5;
    private static final int PAY = 0, FINE = 1, FIND = 2, PARTS = 3;
    private static final int NAMES = 6;
    private static final int HANDS_OWN = 0, YARDS_OWN = 1, OWNERS = 3;
    private static final int YARD = 10, FIRST_PARISH = 11;

    private static final int MOST_CARTS = 40, MOST_PRICES = 40, MOST_BYTES = 160, MOST_TEXTS = 6;
    private static final int MOST_CONTRACTS = 20, MOST_FINDS = 20, MOST_DOORS = 12, MOST_MISSED = 60;
    private static final int MOST_ROWS = 5, MOST_BARGES = 8, MOST_BUYERS = 6;
    private static final int SHEETS = 4, SHEET_SORTS = 3, MOST_ITEMS = 40;
    private static final int MOST_POUNDS = 9999, MOST_TOLD = 99999, MOST_PENCE = 999;
    private static final String TEXT_0 = "pay 3 - weight ; fine missed * 5 ; find 1 ;";

    private final Carts carts = new Carts();
    private final int[] store = new int[SORTS + 2];
    private final Prices told = new Prices();
    private final Tape tape = new Tape();
    private final Contracts contracts = new Contracts();
    private final int[] named = new int[NAMES];
    private final int[] stack = new int[MOST_BYTES];
    private final Finds found = new Finds();
    private final Doors doors = new Doors();
    private final int[] rowBreeze = new int[MOST_ROWS];
    private final int[] rowSoil = new int[MOST_ROWS];
    private final Hands hands = new Hands();
    private final Barges barges = new Barges();
    private final Buyers buyers = new Buyers();
    private final Sheet[] sheets = new Sheet[SHEETS];
    private int rowNumber;
    private int day;
    private int soldFor;

    public DustYards() {
        for (int i = 0; i < SHEETS; i++) {
            sheets[i] = new Sheet();
        }
        for (int i = 0; i < TEXT_0.length(); i++) {
            tape.put(TEXT_0.charAt(i));
        }
        // Not by text(): from there the reading would go one call deeper than the language leaves room for.
        contracts.texts[0].readFrom(tape);
        contracts.textNumber = 1;
        tape.empty();
    }

    public int pass(int n) {
        if (!within(n, 1, MOST_DAYS_AT_ONCE)) {
            return BAD;
        }
        if (day + n > LAST_DAY) {
            return FULL;
        }
        day += n;
        return day;
    }

    // ---- carts, heaps

    public int cart(int kind, int parish, int heap, int weight, int water, int eye) {
        if (!within(kind, 0, KINDS - 1) || !isParish(parish) || !isHeap(heap)) {
            return BAD;
        }
        if (!within(weight, 1, MOST_POUNDS) || !within(water, 0, 90) || !within(eye, 0, MOST_POUNDS)) {
            return BAD;
        }
        if (carts.number >= MOST_CARTS) {
            return FULL;
        }
        int cart = carts.come(kind, parish, heap, day);
        carts.weigh(cart, weight, water, eye);
        return cart;
    }

    public int cartTold(int cart, int what) {
        if (!carts.has(cart)) {
            return BAD;
        }
        switch (what) {
            case 0: return carts.kind[cart];
            case 1: return carts.parish[cart];
            case 2: return carts.heap[cart];
            case 3: return carts.weight[cart];
            case 4: return carts.dry[cart];
            case 5:
            case 6:
            case 7:
            case 8: return carts.ofSort(cart, what - 5, carts.dry[cart]);
            case 9: return carts.waste(cart);
            case 10: return carts.shortBy(cart);
            case 11: return carts.day[cart];
            case 12: return carts.sifted[cart] ? 1 : 0;
            default: return BAD;
        }
    }

    public int sift(int heap, int n) {
        if (!isHeap(heap) || !within(n, 0, MOST_TOLD)) {
            return BAD;
        }
        int left = n;
        int sifted = 0;
        for (int c = 0; c < carts.number; c++) {
            if (!carts.liesOn(c, heap)) {
                continue;
            }
            if (carts.dry[c] > left) {
                break;
            }
            left -= carts.dry[c];
            bringToStore(c);
            sifted++;
        }
        return sifted;
    }

    private void bringToStore(int cart) {
        for (int sort = 0; sort < SORTS; sort++) {
            store[sort] += carts.ofSort(cart, sort, carts.dry[cart]);
        }
        store[WASTE] += carts.waste(cart);
        carts.sifted[cart] = true;
    }

    public int fire(int heap, int hundredths) {
        if (!isHeap(heap) || !within(hundredths, 0, 100)) {
            return BAD;
        }
        int burnt = carts.burn(heap, hundredths);
        store[BURNT] += burnt;
        return burnt;
    }

    public int lies(int heap) {
        return isHeap(heap) ? carts.dryOn(heap) : BAD;
    }

    public int stock(int sort) {
        return within(sort, 0, BURNT) ? store[sort] : BAD;
    }

    public int sell(int sort, int pounds) {
        if (!isSort(sort) || !within(pounds, 1, MOST_TOLD)) {
            return BAD;
        }
        if (store[sort] < pounds) {
            return STATE;
        }
        int pence = comesTo(pounds, told.known(sort, day, day));
        store[sort] -= pounds;
        soldFor += pence;
        return pence;
    }

    // ---- prices, contracts

    public int price(int sort, int day, int pence) {
        if (!isSort(sort) || !isDay(day) || !within(pence, 0, MOST_PENCE)) {
            return BAD;
        }
        if (told.number >= MOST_PRICES) {
            return FULL;
        }
        return told.tell(sort, day, pence, this.day);
    }

    public int priceOf(int sort, int day, int known) {
        if (!isSort(sort) || !isDay(day) || !within(known, 0, this.day)) {
            return BAD;
        }
        return told.known(sort, day, known);
    }

    public int feed(int n, long bytes) {
        if (!within(n, 1, 8)) {
            return BAD;
        }
        if (tape.size + n > MOST_BYTES) {
            return FULL;
        }
        for (int i = 0; i < n; i++) {
            tape.put((int) (bytes >>> (8 * i)) & 255);
        }
        return tape.size;
    }

    public int text() {
        if (contracts.textNumber >= MOST_TEXTS) {
            return FULL;
        }
        boolean isText = contracts.texts[contracts.textNumber].readFrom(tape);
        tape.empty();
        if (!isText) {
            return FAULT_AT_ZERO - tape.start;
        }
        contracts.textNumber++;
        return contracts.textNumber - 1;
    }

    public int contract(int parish, int from, int text) {
        if (!isParish(parish) || !isDay(from) || !within(text, 0, contracts.textNumber - 1)) {
            return BAD;
        }
        if (contracts.number >= MOST_CONTRACTS) {
            return FULL;
        }
        return contracts.agree(parish, from, text);
    }

    public int contractOf(int parish, int day) {
        return isParish(parish) && isDay(day) ? contracts.inForce(parish, day) : BAD;
    }

    public long says(int cart, int part) {
        if (!carts.has(cart) || !within(part, 0, PARTS - 1)) {
            return NO;
        }
        return partFor(cart, part);
    }

    private int partFor(int cart, int part) {
        int parish = carts.parish[cart];
        int came = carts.day[cart];
        named[Tape.WEIGHT] = carts.weight[cart];
        named[Tape.DAY] = came;
        named[Tape.WET] = carts.water[cart];
        named[Tape.KIND] = carts.kind[cart];
        named[Tape.MISSED] = doors.missedOf(parish, came);
        named[Tape.PRICE] = told.known(BREEZE, came, day);
        return contracts.texts[contracts.inForce(parish, came)].worked(part, named, stack);
    }

    public long owed(int parish, int from, int to) {
        if (!isParish(parish) || !areDays(from, to)) {
            return NO;
        }
        long owed = 0;
        for (int c = 0; c < carts.number; c++) {
            if (carts.cameIn(c, parish, from, to)) {
                owed += partFor(c, PAY);
                owed -= Math.max(0, partFor(c, FINE));
            }
        }
        return owed;
    }

    public int find(int cart, int hand, int worth) {
        if (!carts.has(cart) || !isHand(hand) || !within(worth, 0, 9999)) {
            return BAD;
        }
        if (found.number >= MOST_FINDS) {
            return FULL;
        }
        return found.put(cart, hand, worth);
    }

    public int whose(int find) {
        return within(find, 0, found.number - 1) ? ownerOf(find) : BAD;
    }

    private int ownerOf(int find) {
        return Math.floorMod(partFor(found.cart[find], FIND), OWNERS);
    }

    public long finds(int who) {
        if (!within(who, 0, FIRST_PARISH + PARISHES - 1)) {
            return NO;
        }
        long worth = 0;
        for (int f = 0; f < found.number; f++) {
            if (holderOf(f) == who) {
                worth += found.worth[f];
            }
        }
        return worth;
    }

    /** Who has a FIND, numbered as {@link #finds} is asked. */
    private int holderOf(int find) {
        int owner = ownerOf(find);
        if (owner == HANDS_OWN) {
            return found.hand[find];
        }
        return owner == YARDS_OWN ? YARD : FIRST_PARISH + carts.parish[found.cart[find]];
    }

    // ---- doors, bids

    public int door(int parish, int pounds, int weekday, int yards) {
        if (!isParish(parish) || !within(pounds, 1, 999)) {
            return BAD;
        }
        if (!within(weekday, 0, WEEKDAYS - 1) || !within(yards, 0, 9999)) {
            return BAD;
        }
        if (doors.number >= MOST_DOORS) {
            return FULL;
        }
        return doors.put(parish, pounds, weekday, yards);
    }

    public int miss(int door) {
        if (!within(door, 0, doors.number - 1)) {
            return BAD;
        }
        if (doors.weekday[door] != day % WEEKDAYS || doors.wasMissed(door, day)) {
            return STATE;
        }
        if (doors.missedNumber >= MOST_MISSED) {
            return FULL;
        }
        doors.putMissed(door, day);
        return doors.missedOf(doors.parish[door], day);
    }

    public int rounds(int weekday, int pounds, int yards) {
        if (!within(weekday, 0, WEEKDAYS - 1) || !within(pounds, 1, MOST_POUNDS)) {
            return BAD;
        }
        return within(yards, 0, MOST_TOLD) ? doors.fewestCarts(weekday, pounds, yards) : BAD;
    }

    public int row(int breeze, int soil) {
        if (!within(breeze, 0, MOST_PENCE) || !within(soil, 0, MOST_PENCE)) {
            return BAD;
        }
        if (rowNumber >= MOST_ROWS) {
            return FULL;
        }
        rowBreeze[rowNumber] = breeze;
        rowSoil[rowNumber] = soil;
        rowNumber++;
        return rowNumber - 1;
    }

    public long bid(int parish, int from, int to, int row) {
        if (!isParish(parish) || !areDays(from, to) || !within(row, NONE, rowNumber - 1)) {
            return NO;
        }
        if (row != NONE) {
            return worthBy(row, parish, from, to);
        }
        long least = 0;
        for (int r = 0; r < rowNumber; r++) {
            long worth = worthBy(r, parish, from, to);
            if (r == 0 || worth < least) {
                least = worth;
            }
        }
        return least;
    }

    private long worthBy(int row, int parish, int from, int to) {
        long worth = 0;
        for (int c = 0; c < carts.number; c++) {
            if (carts.cameIn(c, parish, from, to)) {
                int dry = carts.dryAtFirst[c];
                worth += comesTo(carts.ofSort(c, BREEZE, dry), rowBreeze[row]);
                worth += comesTo(carts.ofSort(c, SOIL, dry), rowSoil[row]);
            }
        }
        return worth;
    }

    // ---- hands, barges, buyers

    public int wins(int hand, int heap, int n) {
        if (!isHand(hand) || !isHeap(heap) || !within(n, 0, 999)) {
            return BAD;
        }
        return hands.setWin(hand, heap, n);
    }

    public int laid(int hands, int i) {
        if (!within(hands, 0, (1 << HANDS) - 1) || Integer.bitCount(hands) > HEAPS) {
            return BAD;
        }
        if (!within(i, NONE, Integer.bitCount(hands) - 1)) {
            return NONE;
        }
        this.hands.layAll(hands);
        return i == NONE ? this.hands.most : this.hands.bestHeap[i];
    }

    public int barge(int weight, int freight) {
        if (!within(weight, 1, 9999) || !within(freight, 0, 9999)) {
            return BAD;
        }
        return barges.number >= MOST_BARGES ? FULL : barges.put(weight, freight);
    }

    public int tide(int weight, int what) {
        if (!within(weight, 0, MOST_TOLD) || !within(what, 0, 1)) {
            return BAD;
        }
        int set = barges.bestSet(weight);
        return what == 0 ? set : barges.together(barges.freight, set);
    }

    public int buyer(int need, int pence) {
        if (!within(need, 0, MOST_POUNDS) || !within(pence, 0, MOST_PENCE)) {
            return BAD;
        }
        return buyers.number >= MOST_BUYERS ? FULL : buyers.put(need, pence);
    }

    public int stop(int buyer, int is) {
        if (!within(buyer, 0, buyers.number - 1) || !within(is, 0, 1)) {
            return BAD;
        }
        int was = buyers.stopped[buyer] ? 1 : 0;
        buyers.stopped[buyer] = is == 1;
        return was;
    }

    public long parted(int buyer) {
        if (!within(buyer, NONE, buyers.number - 1)) {
            return NO;
        }
        buyers.part(store[BREEZE]);
        return buyer == NONE ? buyers.allPence() : buyers.share[buyer];
    }

    public int count(int what) {
        switch (what) {
            case 0: return day;
            case 1: return carts.number;
            case 2: return told.number;
            case 3: return contracts.textNumber;
            case 4: return tape.size;
            case 5: return contracts.number;
            case 6: return found.number;
            case 7: return doors.number;
            case 8: return doors.missedNumber;
            case 9: return rowNumber;
            case 10: return barges.number;
            case 11: return buyers.number;
            case 12: return soldFor;
            default: return BAD;
        }
    }

    // ---- the host

    public int sheet(int sheet, int sort, int n) {
        if (!isSheet(sheet) || !within(sort, NONE, SHEET_SORTS - 1)) {
            return BAD;
        }
        if (sort == NONE) {
            sheets[sheet].become(NONE, 0);
            return 1;
        }
        if (n > MOST_ITEMS) {
            return BAD;
        }
        if (n < 0) {
            return BELOW_ZERO;
        }
        sheets[sheet].become(sort, n);
        return 1;
    }

    public int cell(int sheet, int i, int v) {
        if (!isSheet(sheet)) {
            return BAD;
        }
        Sheet written = sheets[sheet];
        if (written.isMissing()) {
            return NOTHING;
        }
        if (!within(i, 0, written.size - 1)) {
            return OUTSIDE;
        }
        written.write(i, v);
        return 1;
    }

    public int copy(int sheet, int i, int other, int j, int n) {
        if (!isSheet(sheet) || !isSheet(other)) {
            return BAD;
        }
        Sheet source = sheets[sheet];
        Sheet target = sheets[other];
        if (source.isMissing() || target.isMissing()) {
            return NOTHING;
        }
        if (source.sort != target.sort) {
            return UNLIKE;
        }
        if (!source.holds(i, n) || !target.holds(j, n)) {
            return OUTSIDE;
        }
        System.arraycopy(source.items, i, target.items, j, n);
        return n;
    }

    public int prices(int sort, int day, int sheet, int as, int from, int n) {
        if (!isSort(sort) || !isDay(day) || !isSheet(sheet)) {
            return BAD;
        }
        if (!within(as, 0, SHEET_SORTS - 1) || !within(n, 0, MOST_ITEMS)) {
            return BAD;
        }
        Sheet read = sheets[sheet];
        // A missing SHEET may be taken for one of any sort: it is found missing only behind that.
        if (!read.isMissing() && read.sort != as) {
            return UNLIKE;
        }
        return read.isMissing() ? NOTHING : takePrices(sort, day, read, from, n);
    }

    private int takePrices(int sort, int firstDay, Sheet read, int from, int n) {
        int before = told.number;
        for (int k = 0; k < n; k++) {
            if (!within(from, 0, read.size - 1 - k)) {
                return OUTSIDE;
            }
            // What is no PRICE, or has no room, is left out by what price itself refuses.
            price(sort, firstDay + k, read.items[from + k]);
        }
        return told.number - before;
    }

    public int taken(int cart, int k) {
        if (!within(k, 0, KINDS - 1)) {
            return BAD;
        }
        if (!carts.has(cart)) {
            return NOTHING;
        }
        return carts.isOfKind(cart, k) ? carts.weight[cart] : UNLIKE;
    }

    // ---- what numbers may be

    private static boolean within(int n, int least, int most) {
        return n >= least && n <= most;
    }

    private static boolean isParish(int n) {
        return within(n, 0, PARISHES - 1);
    }

    private static boolean isHeap(int n) {
        return within(n, 0, HEAPS - 1);
    }

    private static boolean isSort(int n) {
        return within(n, 0, SORTS - 1);
    }

    private static boolean isHand(int n) {
        return within(n, 0, HANDS - 1);
    }

    private static boolean isSheet(int n) {
        return within(n, 0, SHEETS - 1);
    }

    private static boolean isDay(int n) {
        return within(n, 0, LAST_DAY);
    }

    private static boolean areDays(int from, int to) {
        return isDay(from) && isDay(to) && from <= to;
    }

    private static int comesTo(int pounds, int pence) {
        return pounds * pence / 100;
    }

    /** CARTS, in the order in which they came. */
    private static final class Carts {
        // Worked out from the document's words: a line for each KIND, in it BREEZE, SOIL, BONES, RAGS.
        private static final int[] HUNDREDTHS = {
            20, 40, 5, 3,
            50, 40, 5, 3,
            10, 50, 10, 3,
            70, 20, 0, 3,
            10, 70, 20, 0,
            10, 80, 5, 3,
        };
        private static final int[] EYES = {10, 5, 25, 5, 30, 10};
        private static final int[] UNDER = {NONE, 0, 0, 1, 2, 1};

        final int[] kind = new int[MOST_CARTS];
        final int[] parish = new int[MOST_CARTS];
        final int[] heap = new int[MOST_CARTS];
        final int[] day = new int[MOST_CARTS];
        final int[] weight = new int[MOST_CARTS];
        final int[] water = new int[MOST_CARTS];
        final int[] eye = new int[MOST_CARTS];
        final int[] dryAtFirst = new int[MOST_CARTS];
        final int[] dry = new int[MOST_CARTS];
        final boolean[] sifted = new boolean[MOST_CARTS];
        int number;

        boolean has(int cart) {
            return within(cart, 0, number - 1);
        }

        int come(int kind, int parish, int heap, int day) {
            int cart = number;
            this.kind[cart] = kind;
            this.parish[cart] = parish;
            this.heap[cart] = heap;
            this.day[cart] = day;
            number++;
            return cart;
        }

        void weigh(int cart, int weight, int water, int eye) {
            this.weight[cart] = weight;
            this.water[cart] = water;
            this.eye[cart] = eye;
            dryAtFirst[cart] = weight - weight * water / 100;
            dry[cart] = dryAtFirst[cart];
        }

        boolean liesOn(int cart, int heap) {
            return this.heap[cart] == heap && !sifted[cart];
        }

        boolean cameIn(int cart, int parish, int from, int to) {
            return this.parish[cart] == parish && within(day[cart], from, to);
        }

        int ofSort(int cart, int sort, int pounds) {
            return pounds * HUNDREDTHS[kind[cart] * SORTS + sort] / 100;
        }

        int waste(int cart) {
            int rest = dry[cart];
            for (int sort = 0; sort < SORTS; sort++) {
                rest -= ofSort(cart, sort, dry[cart]);
            }
            return rest;
        }

        int shortBy(int cart) {
            int below = eye[cart] - weight[cart];
            return below > eye[cart] * EYES[kind[cart]] / 100 ? below : 0;
        }

        boolean isOfKind(int cart, int k) {
            int at = kind[cart];
            for (int step = 0; step < KINDS && at != NONE; step++) {
                if (at == k) {
                    return true;
                }
                at = UNDER[at];
            }
            return false;
        }

        int burn(int heap, int hundredths) {
            int burnt = 0;
            for (int c = 0; c < number; c++) {
                if (liesOn(c, heap)) {
                    int lost = dry[c] * hundredths / 100;
                    dry[c] -= lost;
                    burnt += lost;
                }
            }
            return burnt;
        }

        int dryOn(int heap) {
            int pounds = 0;
            for (int c = 0; c < number; c++) {
                pounds += liesOn(c, heap) ? dry[c] : 0;
            }
            return pounds;
        }
    }

    /** PRICES, in the order in which they were told. */
    private static final class Prices {
        final int[] sort = new int[MOST_PRICES];
        final int[] day = new int[MOST_PRICES];
        final int[] pence = new int[MOST_PRICES];
        final int[] toldIn = new int[MOST_PRICES];
        int number;

        int tell(int sort, int day, int pence, int today) {
            this.sort[number] = sort;
            this.day[number] = day;
            this.pence[number] = pence;
            toldIn[number] = today;
            number++;
            return number;
        }

        int known(int sort, int day, int known) {
            int nearest = NONE;
            for (int p = 0; p < number; p++) {
                if (this.sort[p] != sort || this.day[p] > day || toldIn[p] > known) {
                    continue;
                }
                // "or like": of several for one DAY the one told last counts.
                if (nearest == NONE || this.day[p] >= this.day[nearest]) {
                    nearest = p;
                }
            }
            return nearest == NONE ? 0 : pence[nearest];
        }
    }

    /** THE TAPE, and the TOKEN of it that is looked at. */
    private static final class Tape {
        // A SIGN is its own byte as a TOKEN: the others' numbers lie above all bytes.
        static final int END = 256, UNREADABLE = 257, NUMBER = 258;
        // pay, fine, find lie in the order of their parts.
        static final int KEY_PAY = 260, KEY_FINE = 261, KEY_FIND = 262;
        static final int KEY_OR = 263, KEY_AND = 264, KEY_NOT = 265;
        static final int FIRST_NAME = 270;
        static final int WEIGHT = 0, DAY = 1, WET = 2, KIND = 3, MISSED = 4, PRICE = 5;
        private static final int MOST_DIGITS = 4;

        final int[] bytes = new int[MOST_BYTES];
        int size;
        int start;
        int next;
        int token;
        int number;

        void put(int b) {
            if (size < MOST_BYTES) {
                bytes[size] = b;
                size++;
            }
        }

        void empty() {
            size = 0;
        }

        void rewind() {
            next = 0;
            advance();
        }

        /** Goes on behind the TOKEN, if it is the one that is due. */
        boolean accepts(int due) {
            if (token != due) {
                return false;
            }
            advance();
            return true;
        }

        void advance() {
            start = next;
            while (start < size && isBlank(bytes[start])) {
                start++;
            }
            next = start;
            if (start >= size) {
                token = END;
            } else if (isLetter(bytes[start])) {
                readWord();
            } else if (isDigit(bytes[start])) {
                readNumber();
            } else {
                next = start + 1;
                token = isSign(bytes[start]) ? bytes[start] : UNREADABLE;
            }
        }

        private void readWord() {
            while (next < size && isLetter(bytes[next])) {
                next++;
            }
            token = isWord("pay") ? KEY_PAY
                    : isWord("fine") ? KEY_FINE
                    : isWord("find") ? KEY_FIND
                    : isWord("or") ? KEY_OR
                    : isWord("and") ? KEY_AND
                    : isWord("not") ? KEY_NOT
                    : isWord("weight") ? FIRST_NAME + WEIGHT
                    : isWord("day") ? FIRST_NAME + DAY
                    : isWord("wet") ? FIRST_NAME + WET
                    : isWord("kind") ? FIRST_NAME + KIND
                    : isWord("missed") ? FIRST_NAME + MISSED
                    : isWord("price") ? FIRST_NAME + PRICE
                    : UNREADABLE;
        }

        private void readNumber() {
            number = 0;
            while (next < size && isDigit(bytes[next])) {
                number = number * 10 + bytes[next] - '0';
                next++;
            }
            token = next - start > MOST_DIGITS ? UNREADABLE : NUMBER;
        }

        private boolean isWord(String word) {
            if (word.length() != next - start) {
                return false;
            }
            for (int i = 0; i < word.length(); i++) {
                if (bytes[start + i] != word.charAt(i)) {
                    return false;
                }
            }
            return true;
        }

        private static boolean isBlank(int b) {
            return b == 32 || b == 10;
        }

        private static boolean isLetter(int b) {
            return b >= 'a' && b <= 'z';
        }

        private static boolean isDigit(int b) {
            return b >= '0' && b <= '9';
        }

        private static boolean isSign(int b) {
            switch (b) {
                case '(':
                case ')':
                case ';':
                case '+':
                case '-':
                case '*':
                case '<':
                case '=': return true;
                default: return false;
            }
        }
    }

    /** A TEXT, held as steps of a stack machine: what is worked on stands ahead of what works on it. */
    private static final class Text {
        // A NUMBER is its own step; below these are the steps of NAMES, the first NAME's highest.
        private static final int NEGATE = -1, NOT = -2, PLUS = -3, MINUS = -4, TIMES = -5;
        private static final int LESS = -6, EQUAL = -7, AND = -8, OR = -9, FIRST_NAME = -10;
        private static final int MOST_OPEN = 5;

        final int[] steps = new int[MOST_BYTES];
        final int[] ends = new int[PARTS];
        int size;

        /** Whether THE TAPE is a TEXT; if it is none, the TAPE's TOKEN is where the FAULT is. */
        boolean readFrom(Tape tape) {
            size = 0;
            tape.rewind();
            for (int part = 0; part < PARTS; part++) {
                if (!tape.accepts(Tape.KEY_PAY + part) || !readEither(tape, 0)) {
                    return false;
                }
                ends[part] = size;
                if (!tape.accepts(';')) {
                    return false;
                }
            }
            return tape.token == Tape.END;
        }

        private void add(int step) {
            if (size < MOST_BYTES) {
                steps[size] = step;
                size++;
            }
        }

        // In what follows no loop can go round more often than THE TAPE has bytes.

        private boolean readEither(Tape tape, int open) {
            if (!readBoth(tape, open)) {
                return false;
            }
            for (int n = 0; n < MOST_BYTES && tape.token == Tape.KEY_OR; n++) {
                tape.advance();
                if (!readBoth(tape, open)) {
                    return false;
                }
                add(OR);
            }
            return true;
        }

        private boolean readBoth(Tape tape, int open) {
            if (!readNot(tape, open)) {
                return false;
            }
            for (int n = 0; n < MOST_BYTES && tape.token == Tape.KEY_AND; n++) {
                tape.advance();
                if (!readNot(tape, open)) {
                    return false;
                }
                add(AND);
            }
            return true;
        }

        private boolean readNot(Tape tape, int open) {
            if (tape.token != Tape.KEY_NOT) {
                return readCompared(tape, open);
            }
            if (open >= MOST_OPEN) {
                return false;
            }
            tape.advance();
            if (!readNot(tape, open + 1)) {
                return false;
            }
            add(NOT);
            return true;
        }

        private boolean readCompared(Tape tape, int open) {
            if (!readSum(tape, open)) {
                return false;
            }
            int sign = tape.token;
            if (sign != '<' && sign != '=') {
                return true;
            }
            tape.advance();
            if (!readSum(tape, open)) {
                return false;
            }
            add(sign == '<' ? LESS : EQUAL);
            return true;
        }

        private boolean readSum(Tape tape, int open) {
            if (!readTerm(tape, open)) {
                return false;
            }
            for (int n = 0; n < MOST_BYTES && (tape.token == '+' || tape.token == '-'); n++) {
                int sign = tape.token;
                tape.advance();
                if (!readTerm(tape, open)) {
                    return false;
                }
                add(sign == '+' ? PLUS : MINUS);
            }
            return true;
        }

        private boolean readTerm(Tape tape, int open) {
            if (!readOne(tape, open)) {
                return false;
            }
            for (int n = 0; n < MOST_BYTES && tape.token == '*'; n++) {
                tape.advance();
                if (!readOne(tape, open)) {
                    return false;
                }
                add(TIMES);
            }
            return true;
        }

        private boolean readOne(Tape tape, int open) {
            int token = tape.token;
            if (token == '-') {
                return open < MOST_OPEN && readNegated(tape, open + 1);
            }
            if (token == '(') {
                return open < MOST_OPEN && readBracket(tape, open + 1);
            }
            if (token != Tape.NUMBER && token < Tape.FIRST_NAME) {
                return false;
            }
            add(token == Tape.NUMBER ? tape.number : FIRST_NAME - (token - Tape.FIRST_NAME));
            tape.advance();
            return true;
        }

        private boolean readNegated(Tape tape, int open) {
            tape.advance();
            if (!readOne(tape, open)) {
                return false;
            }
            add(NEGATE);
            return true;
        }

        private boolean readBracket(Tape tape, int open) {
            tape.advance();
            return readEither(tape, open) && tape.accepts(')');
        }

        /** What a part comes to; a TEXT that was read never finds the stack too short or too low. */
        int worked(int part, int[] named, int[] stack) {
            int high = 0;
            for (int i = part == 0 ? 0 : ends[part - 1]; i < ends[part]; i++) {
                int step = steps[i];
                if (step >= 0 || step <= FIRST_NAME) {
                    if (high >= stack.length) {
                        return 0;
                    }
                    stack[high] = step >= 0 ? step : named[FIRST_NAME - step];
                    high++;
                } else if (step == NEGATE || step == NOT) {
                    if (high < 1) {
                        return 0;
                    }
                    stack[high - 1] = step == NEGATE ? -stack[high - 1] : truth(stack[high - 1] == 0);
                } else {
                    if (high < 2) {
                        return 0;
                    }
                    high--;
                    stack[high - 1] = joined(step, stack[high - 1], stack[high]);
                }
            }
            return high == 1 ? stack[0] : 0;
        }

        private static int joined(int step, int a, int b) {
            switch (step) {
                case PLUS: return a + b;
                case MINUS: return a - b;
                case TIMES: return a * b;
                case LESS: return truth(a < b);
                case EQUAL: return truth(a == b);
                case AND: return truth(a != 0 && b != 0);
                default: return truth(a != 0 || b != 0);
            }
        }

        private static int truth(boolean is) {
            return is ? 1 : 0;
        }
    }

    /** TEXTS, and the CONTRACTS that name them, in the order in which they were told. */
    private static final class Contracts {
        final Text[] texts = new Text[MOST_TEXTS];
        final int[] parish = new int[MOST_CONTRACTS];
        final int[] from = new int[MOST_CONTRACTS];
        final int[] chosen = new int[MOST_CONTRACTS];
        int textNumber;
        int number;

        Contracts() {
            for (int i = 0; i < MOST_TEXTS; i++) {
                texts[i] = new Text();
            }
        }

        int agree(int parish, int from, int text) {
            this.parish[number] = parish;
            this.from[number] = from;
            chosen[number] = text;
            number++;
            return number;
        }

        int inForce(int parish, int day) {
            int last = NONE;
            for (int c = 0; c < number; c++) {
                if (this.parish[c] != parish || from[c] > day) {
                    continue;
                }
                // "or like": of several from one DAY on the one told last counts.
                if (last == NONE || from[c] >= from[last]) {
                    last = c;
                }
            }
            return last == NONE ? 0 : chosen[last];
        }
    }

    /** FINDS; WHOSE they are is asked of the TEXTS each time, since PRICES and CONTRACTS come late. */
    private static final class Finds {
        final int[] cart = new int[MOST_FINDS];
        final int[] hand = new int[MOST_FINDS];
        final int[] worth = new int[MOST_FINDS];
        int number;

        int put(int cart, int hand, int worth) {
            this.cart[number] = cart;
            this.hand[number] = hand;
            this.worth[number] = worth;
            number++;
            return number - 1;
        }
    }

    /** DOORS, and which of them were MISSED in which DAY. */
    private static final class Doors {
        private static final int MOST_ASKED = 8;
        // More than any cart holds, so that carts and the last one's load lie in one number.
        private static final int CART = 10000;
        private static final int MORE_THAN_ALL = CART * (MOST_ASKED + 1);

        final int[] parish = new int[MOST_DOORS];
        final int[] pounds = new int[MOST_DOORS];
        final int[] weekday = new int[MOST_DOORS];
        final int[] yards = new int[MOST_DOORS];
        final int[] missed = new int[MOST_MISSED];
        final int[] missedIn = new int[MOST_MISSED];
        final int[] asked = new int[MOST_ASKED];
        final int[] least = new int[1 << MOST_ASKED];
        int number;
        int missedNumber;

        int put(int parish, int pounds, int weekday, int yards) {
            this.parish[number] = parish;
            this.pounds[number] = pounds;
            this.weekday[number] = weekday;
            this.yards[number] = yards;
            number++;
            return number - 1;
        }

        boolean wasMissed(int door, int day) {
            for (int m = 0; m < missedNumber; m++) {
                if (missed[m] == door && missedIn[m] == day) {
                    return true;
                }
            }
            return false;
        }

        void putMissed(int door, int day) {
            missed[missedNumber] = door;
            missedIn[missedNumber] = day;
            missedNumber++;
        }

        int missedOf(int parish, int day) {
            int doors = 0;
            for (int m = 0; m < missedNumber; m++) {
                if (missedIn[m] == day && this.parish[missed[m]] == parish) {
                    doors++;
                }
            }
            return doors;
        }

        int fewestCarts(int weekday, int most, int mostYards) {
            int n = 0;
            boolean served = true;
            for (int d = 0; d < number; d++) {
                if (this.weekday[d] != weekday) {
                    continue;
                }
                if (n >= MOST_ASKED) {
                    return STATE;
                }
                asked[n] = pounds[d];
                n++;
                // A cart goes as far as its furthest DOOR: yards bind each DOOR by itself.
                served = served && pounds[d] <= most && 2 * yards[d] <= mostYards;
            }
            if (!served) {
                return NONE;
            }
            return n == 0 ? 0 : filled(n, most) / CART + 1;
        }

        /** The fewest full carts and, with these, the least load in the last one, for all n asked. */
        private int filled(int n, int most) {
            int sets = 1 << n;
            least[0] = 0;
            for (int set = 1; set < sets; set++) {
                int best = MORE_THAN_ALL;
                for (int i = 0; i < n; i++) {
                    if ((set >> i & 1) == 1) {
                        best = Math.min(best, loaded(least[set ^ 1 << i], asked[i], most));
                    }
                }
                least[set] = best;
            }
            return least[sets - 1];
        }

        private static int loaded(int carts, int pounds, int most) {
            int load = carts % CART;
            return load + pounds <= most ? carts + pounds : carts - load + CART + pounds;
        }
    }

    /** What HANDS win from HEAPS, and how told ones are laid. */
    private static final class Hands {
        final int[] win = new int[HANDS * HEAPS];
        final int[] called = new int[HEAPS];
        final int[] heapOf = new int[HEAPS];
        final int[] bestHeap = new int[HEAPS];
        int calledNumber;
        int most;

        int setWin(int hand, int heap, int n) {
            int was = win[hand * HEAPS + heap];
            win[hand * HEAPS + heap] = n;
            return was;
        }

        void layAll(int bits) {
            calledNumber = 0;
            for (int h = 0; h < HANDS; h++) {
                if ((bits >> h & 1) == 1 && calledNumber < HEAPS) {
                    called[calledNumber] = h;
                    calledNumber++;
                }
            }
            most = NONE;
            layFrom(this, 0, 0, 0);
        }

        /** Tries lesser HEAPS first, so that of like ones the first that is met is the one to keep. */
        private static void layFrom(Hands hands, int i, int used, int won) {
            if (i >= hands.calledNumber) {
                if (won > hands.most) {
                    hands.most = won;
                    System.arraycopy(hands.heapOf, 0, hands.bestHeap, 0, hands.calledNumber);
                }
                return;
            }
            int hand = hands.called[i];
            for (int heap = 0; heap < HEAPS; heap++) {
                if ((used >> heap & 1) == 0) {
                    hands.heapOf[i] = heap;
                    layFrom(hands, i + 1, used | 1 << heap, won + hands.win[hand * HEAPS + heap]);
                }
            }
        }
    }

    /** BARGES. */
    private static final class Barges {
        final int[] weight = new int[MOST_BARGES];
        final int[] freight = new int[MOST_BARGES];
        int number;

        int put(int weight, int freight) {
            this.weight[number] = weight;
            this.freight[number] = freight;
            number++;
            return number - 1;
        }

        int bestSet(int mostWeight) {
            int best = 0;
            int bestWeight = 0;
            int bestFreight = 0;
            for (int set = 1; set < 1 << number; set++) {
                int w = together(weight, set);
                int f = together(freight, set);
                if (w <= mostWeight && (f > bestFreight || f == bestFreight && w < bestWeight)) {
                    best = set;
                    bestWeight = w;
                    bestFreight = f;
                }
            }
            return best;
        }

        int together(int[] each, int set) {
            int sum = 0;
            for (int b = 0; b < number; b++) {
                sum += (set >> b & 1) == 1 ? each[b] : 0;
            }
            return sum;
        }
    }

    /** BUYERS, and what each has when STOCK is PARTED. */
    private static final class Buyers {
        final int[] need = new int[MOST_BUYERS];
        final int[] pence = new int[MOST_BUYERS];
        final boolean[] stopped = new boolean[MOST_BUYERS];
        final int[] share = new int[MOST_BUYERS];
        int number;

        int put(int need, int pence) {
            this.need[number] = need;
            this.pence[number] = pence;
            number++;
            return number - 1;
        }

        void part(int breeze) {
            Arrays.fill(share, 0);
            int left = breeze;
            int served = 0;
            for (int turn = 0; turn < number; turn++) {
                int buyer = dearest(served);
                if (buyer == NONE) {
                    return;
                }
                served |= 1 << buyer;
                share[buyer] = Math.min(left, need[buyer]);
                left -= share[buyer];
            }
        }

        /** Of those that go on and weren't served: the one that has the next turn, or NONE. */
        private int dearest(int served) {
            int best = NONE;
            for (int b = 0; b < number; b++) {
                boolean waits = !stopped[b] && (served >> b & 1) == 0;
                if (waits && (best == NONE || pence[b] > pence[best])) {
                    best = b;
                }
            }
            return best;
        }

        long allPence() {
            long sum = 0;
            for (int b = 0; b < number; b++) {
                sum += comesTo(share[b], pence[b]);
            }
            return sum;
        }
    }

    /** A SHEET: a row of bytes, shorts or ints, held as the ints that these are. */
    private static final class Sheet {
        private static final int BYTES = 0, SHORTS = 1;

        final int[] items = new int[MOST_ITEMS];
        int sort = NONE;
        int size;

        boolean isMissing() {
            return sort == NONE;
        }

        void become(int sort, int size) {
            this.sort = sort;
            this.size = size;
            Arrays.fill(items, 0);
        }

        void write(int i, int v) {
            items[i] = sort == BYTES ? (byte) v : sort == SHORTS ? (short) v : v;
        }

        /** Whether n items from i on lie inside; by a difference, since i + n may wrap. */
        boolean holds(int i, int n) {
            return i >= 0 && n >= 0 && i <= size - n;
        }
    }
}
