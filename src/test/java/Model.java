import java.lang.reflect.Array;
import java.util.ArrayList;
import java.util.Comparator;
import java.util.HashMap;
import java.util.List;
import java.util.Map;
import java.util.TreeMap;
import java.util.function.ToIntFunction;
import java.util.function.ToLongFunction;

/**
 * The document once more, written as far from DustYards as can be: kinds as classes, texts as
 * functions, sheets as Java's own arrays with Java's own refusals, all choices by trying all. What
 * is asked of it is asked by a call's name and its numbers.
 */
final class Model {
    private static final long BAD = -2, STATE = -3, FULL = -4, NO = -4611686018427387904L;

    /** A refusal: thrown ahead of every change. */
    private static final class Refused extends RuntimeException {
        private static final long serialVersionUID = 1L;
        final long answer;

        Refused(long answer) {
            super(null, null, false, false);
            this.answer = answer;
        }
    }

    private static class Cart {
        int number, parish, heap, weight, water, byEye, day;
        List<Integer> fires = new ArrayList<>();
        boolean sifted;

        int kind() { return 0; }
        int breeze() { return 20; }
        int soil() { return 40; }
        int bones() { return 5; }
        int rags() { return 3; }
        int eye() { return 10; }

        int dryAtFirst() { return weight - weight * water / 100; }

        int dry() {
            int dry = dryAtFirst();
            for (int f : fires) {
                dry -= dry * f / 100;
            }
            return dry;
        }

        int of(int sort, int dry) {
            int[] all = {breeze(), soil(), bones(), rags()};
            return dry * all[sort] / 100;
        }

        int waste() { return dry() - of(0, dry()) - of(1, dry()) - of(2, dry()) - of(3, dry()); }
    }

    private static class Ash extends Cart {
        @Override int kind() { return 1; }
        @Override int breeze() { return super.breeze() + 30; }
        @Override int eye() { return super.eye() / 2; }
    }

    private static class Wet extends Cart {
        @Override int kind() { return 2; }
        @Override int breeze() { return super.breeze() / 2; }
        @Override int soil() { return super.soil() + 10; }
        @Override int bones() { return super.bones() + 5; }
        @Override int eye() { return super.eye() + 15; }
    }

    private static final class Cinder extends Ash {
        @Override int kind() { return 3; }
        @Override int breeze() { return super.breeze() + 20; }
        @Override int soil() { return super.soil() / 2; }
        @Override int bones() { return 0; }
    }

    private static final class Slop extends Wet {
        @Override int kind() { return 4; }
        @Override int soil() { return super.soil() + 20; }
        @Override int bones() { return super.bones() * 2; }
        @Override int rags() { return 0; }
        @Override int eye() { return super.eye() + 5; }
    }

    private static final class Fine extends Ash {
        @Override int kind() { return 5; }
        @Override int breeze() { return super.breeze() - 40; }
        @Override int soil() { return new Cart().soil() * 2; }
        @Override int eye() { return new Cart().eye(); }
    }

    private static final List<Class<?>> KINDS =
            List.of(Cart.class, Ash.class, Wet.class, Cinder.class, Slop.class, Fine.class);

    private record Price(int sort, int day, int pence, int told) { }
    private record Contract(int parish, int from, int text) { }
    private record Found(Cart cart, int hand, int worth) { }
    private record Door(int parish, int pounds, int weekday, int yards) { }
    private record Missed(Door door, int number, int day) { }
    private record Row(int breeze, int soil) { }
    private record Barge(int weight, int freight) { }
    private record Buyer(int number, int need, int pence) { }

    private int day;
    private final List<Cart> carts = new ArrayList<>();
    private final long[] stock = new long[6];
    private long pence;
    private final List<Price> prices = new ArrayList<>();
    private String tape = "";
    private final List<ModelText> texts = new ArrayList<>();
    private final List<Contract> contracts = new ArrayList<>();
    private final List<Found> finds = new ArrayList<>();
    private final List<Door> doors = new ArrayList<>();
    private final List<Missed> missed = new ArrayList<>();
    private final List<Row> rows = new ArrayList<>();
    private final Map<Integer, Integer> wins = new HashMap<>();
    private final List<Barge> barges = new ArrayList<>();
    private final List<Buyer> buyers = new ArrayList<>();
    private final List<Integer> stopped = new ArrayList<>();
    private final Object[] sheets = new Object[4];
    private final Map<String, ToLongFunction<int[]>> calls = new TreeMap<>();

    Model() {
        texts.add(new ModelText("pay 3 - weight ; fine missed * 5 ; find 1 ;"));
        nameCarts();
        namePrices();
        nameDoors();
        nameHands();
        nameHost();
    }

    long ask(String call, int... n) {
        try {
            return calls.get(call).applyAsLong(n);
        } catch (Refused refused) {
            return refused.answer;
        }
    }

    private static void need(boolean is, long answer) {
        if (!is) {
            throw new Refused(answer);
        }
    }

    private static void in(long answer, long n, long least, long most) {
        need(least <= n && n <= most, answer);
    }

    private static <T> T at(List<T> list, int i, long answer) {
        in(answer, i, 0, list.size() - 1);
        return list.get(i);
    }

    private static <T> int put(List<T> list, int most, T one) {
        need(list.size() < most, FULL);
        list.add(one);
        return list.size();
    }

    private void nameCarts() {
        calls.put("pass", n -> {
            in(BAD, n[0], 1, 60);
            need(day + n[0] < 400, FULL);
            return day += n[0];
        });
        calls.put("cart", this::cart);
        calls.put("cartTold", n -> {
            Cart c = at(carts, n[0], BAD);
            in(BAD, n[1], 0, 12);
            int below = c.byEye - c.weight;
            int[] told = {c.kind(), c.parish, c.heap, c.weight, c.dry(), c.of(0, c.dry()), c.of(1, c.dry()),
                c.of(2, c.dry()), c.of(3, c.dry()), c.waste(),
                below > c.byEye * c.eye() / 100 ? below : 0, c.day, c.sifted ? 1 : 0};
            return told[n[1]];
        });
        calls.put("sift", n -> {
            in(BAD, n[0], 0, 4);
            in(BAD, n[1], 0, 99999);
            int sum = 0;
            int sifted = 0;
            for (Cart c : lying(n[0])) {
                sum += c.dry();
                if (sum > n[1]) {
                    return sifted;
                }
                sifted++;
                c.sifted = true;
                for (int s = 0; s < 4; s++) {
                    stock[s] += c.of(s, c.dry());
                }
                stock[4] += c.waste();
            }
            return sifted;
        });
        calls.put("fire", n -> {
            in(BAD, n[0], 0, 4);
            in(BAD, n[1], 0, 100);
            long before = ask("lies", n[0]);
            lying(n[0]).forEach(c -> c.fires.add(n[1]));
            long burnt = before - ask("lies", n[0]);
            stock[5] += burnt;
            return burnt;
        });
        calls.put("lies", n -> {
            in(BAD, n[0], 0, 4);
            return lying(n[0]).stream().mapToInt(Cart::dry).sum();
        });
        calls.put("stock", n -> {
            in(BAD, n[0], 0, 5);
            return stock[n[0]];
        });
        calls.put("sell", n -> {
            in(BAD, n[0], 0, 3);
            in(BAD, n[1], 1, 99999);
            need(stock[n[0]] >= n[1], STATE);
            stock[n[0]] -= n[1];
            long got = n[1] * ask("priceOf", n[0], day, day) / 100;
            pence += got;
            return got;
        });
    }

    private long cart(int[] n) {
        int[] most = {5, 5, 4, 9999, 90, 9999};
        for (int i = 0; i < 6; i++) {
            in(BAD, n[i], i == 3 ? 1 : 0, most[i]);
        }
        Cart[] kinds = {new Cart(), new Ash(), new Wet(), new Cinder(), new Slop(), new Fine()};
        Cart c = kinds[n[0]];
        c.number = carts.size();
        c.parish = n[1];
        c.heap = n[2];
        c.weight = n[3];
        c.water = n[4];
        c.byEye = n[5];
        c.day = day;
        return put(carts, 40, c) - 1;
    }

    private List<Cart> lying(int heap) {
        return carts.stream().filter(c -> c.heap == heap && !c.sifted).toList();
    }

    private List<Cart> of(int parish, int from, int to) {
        in(NO, parish, 0, 5);
        in(NO, from, 0, 399);
        in(NO, to, from, 399);
        return carts.stream().filter(c -> c.parish == parish && from <= c.day && c.day <= to).toList();
    }

    private void namePrices() {
        calls.put("price", n -> {
            in(BAD, n[0], 0, 3);
            in(BAD, n[1], 0, 399);
            in(BAD, n[2], 0, 999);
            return put(prices, 40, new Price(n[0], n[1], n[2], day));
        });
        calls.put("priceOf", n -> {
            in(BAD, n[0], 0, 3);
            in(BAD, n[1], 0, 399);
            in(BAD, n[2], 0, day);
            for (int d = n[1]; d >= 0; d--) {
                for (int p = prices.size() - 1; p >= 0; p--) {
                    Price price = prices.get(p);
                    if (price.sort == n[0] && price.day == d && price.told <= n[2]) {
                        return price.pence;
                    }
                }
            }
            return 0;
        });
        calls.put("text", n -> {
            need(texts.size() < 6, FULL);
            ModelText text = new ModelText(tape);
            tape = "";
            if (text.fault >= 0) {
                return -100 - text.fault;
            }
            texts.add(text);
            return texts.size() - 1;
        });
        calls.put("contract", n -> {
            in(BAD, n[0], 0, 5);
            in(BAD, n[1], 0, 399);
            in(BAD, n[2], 0, texts.size() - 1);
            return put(contracts, 20, new Contract(n[0], n[1], n[2]));
        });
        calls.put("contractOf", n -> {
            in(BAD, n[0], 0, 5);
            in(BAD, n[1], 0, 399);
            int[] text = new int[400];
            List<Contract> ordered = new ArrayList<>(contracts);
            ordered.sort(Comparator.comparingInt(Contract::from));
            for (Contract c : ordered) {
                for (int d = c.from; d < 400 && c.parish == n[0]; d++) {
                    text[d] = c.text;
                }
            }
            return text[n[1]];
        });
        calls.put("says", n -> {
            Cart c = at(carts, n[0], NO);
            in(NO, n[1], 0, 2);
            return says(c, n[1]);
        });
        calls.put("owed", n -> {
            List<Cart> all = of(n[0], n[1], n[2]);
            return all.stream().mapToLong(c -> says(c, 0)).sum()
                    - all.stream().mapToLong(c -> Math.max(0, says(c, 1))).sum();
        });
        calls.put("find", n -> {
            Cart c = at(carts, n[0], BAD);
            in(BAD, n[1], 0, 9);
            in(BAD, n[2], 0, 9999);
            return put(finds, 20, new Found(c, n[1], n[2])) - 1;
        });
        calls.put("whose", n -> whose(at(finds, n[0], BAD)));
        calls.put("finds", n -> {
            in(NO, n[0], 0, 16);
            return finds.stream().filter(f -> {
                switch ((int) whose(f)) {
                    case 0: return n[0] == f.hand;
                    case 1: return n[0] == 10;
                    default: return n[0] == 11 + f.cart.parish;
                }
            }).mapToLong(Found::worth).sum();
        });
    }

    long feed(int n, long bytes) {
        if (n < 1 || n > 8) {
            return BAD;
        }
        if (tape.length() + n > 160) {
            return FULL;
        }
        for (int i = 0; i < n; i++) {
            tape += (char) (bytes & 255);
            bytes >>= 8;
        }
        return tape.length();
    }

    private long whose(Found f) {
        long rest = says(f.cart, 2) % 3;
        return rest < 0 ? rest + 3 : rest;
    }

    private long says(Cart c, int part) {
        Map<String, Integer> names = new HashMap<>();
        names.put("weight", c.weight);
        names.put("day", c.day);
        names.put("wet", c.water);
        names.put("kind", c.kind());
        names.put("missed", (int) missed.stream().filter(m -> m.day == c.day && m.door.parish == c.parish).count());
        names.put("price", (int) ask("priceOf", 0, c.day, day));
        return texts.get((int) ask("contractOf", c.parish, c.day)).parts.get(part).applyAsInt(names);
    }

    private void nameDoors() {
        calls.put("door", n -> {
            in(BAD, n[0], 0, 5);
            in(BAD, n[1], 1, 999);
            in(BAD, n[2], 0, 5);
            in(BAD, n[3], 0, 9999);
            return put(doors, 12, new Door(n[0], n[1], n[2], n[3])) - 1;
        });
        calls.put("miss", n -> {
            Door d = at(doors, n[0], BAD);
            need(d.weekday == day % 6, STATE);
            need(missed.stream().noneMatch(m -> m.number == n[0] && m.day == day), STATE);
            put(missed, 60, new Missed(d, n[0], day));
            return missed.stream().filter(m -> m.day == day && m.door.parish == d.parish).count();
        });
        calls.put("rounds", n -> {
            in(BAD, n[0], 0, 5);
            in(BAD, n[1], 1, 9999);
            in(BAD, n[2], 0, 99999);
            List<Door> all = doors.stream().filter(d -> d.weekday == n[0]).toList();
            need(all.size() <= 8, STATE);
            int fewest = fewest(all, 0, new ArrayList<>(), n[1], n[2]);
            return fewest == Integer.MAX_VALUE ? -1 : fewest;
        });
        calls.put("row", n -> {
            in(BAD, n[0], 0, 999);
            in(BAD, n[1], 0, 999);
            return put(rows, 5, new Row(n[0], n[1])) - 1;
        });
        calls.put("bid", n -> {
            List<Cart> all = of(n[0], n[1], n[2]);
            in(NO, n[3], -1, rows.size() - 1);
            List<Row> asked = n[3] < 0 ? rows : List.of(rows.get(n[3]));
            return asked.stream().mapToLong(r -> all.stream().mapToLong(c -> {
                int dry = c.dryAtFirst();
                return c.of(0, dry) * r.breeze / 100 + c.of(1, dry) * r.soil / 100;
            }).sum()).min().orElse(0);
        });
    }

    /** Tries each DOOR in each cart that goes already, and in one more. */
    private int fewest(List<Door> all, int next, List<List<Door>> out, int pounds, int yards) {
        if (next == all.size()) {
            return out.size();
        }
        int best = Integer.MAX_VALUE;
        for (int c = 0; c <= out.size(); c++) {
            boolean isNew = c == out.size();
            if (isNew) {
                out.add(new ArrayList<>());
            }
            List<Door> cart = out.get(c);
            cart.add(all.get(next));
            int load = cart.stream().mapToInt(Door::pounds).sum();
            int far = cart.stream().mapToInt(Door::yards).max().orElse(0);
            if (load <= pounds && 2 * far <= yards) {
                best = Math.min(best, fewest(all, next + 1, out, pounds, yards));
            }
            cart.remove(cart.size() - 1);
            if (isNew) {
                out.remove(c);
                break;
            }
        }
        return best;
    }

    private void nameHands() {
        calls.put("wins", n -> {
            in(BAD, n[0], 0, 9);
            in(BAD, n[1], 0, 4);
            in(BAD, n[2], 0, 999);
            Integer was = wins.put(n[0] * 10 + n[1], n[2]);
            return was == null ? 0 : was;
        });
        calls.put("laid", n -> {
            in(BAD, n[0], 0, 1023);
            List<Integer> hands = new ArrayList<>();
            for (int h = 0; h < 10; h++) {
                if ((n[0] & 1 << h) != 0) {
                    hands.add(h);
                }
            }
            need(hands.size() <= 5, BAD);
            in(-1, n[1], -1, hands.size() - 1);
            int[] best = best(hands);
            return n[1] < 0 ? won(hands, best) : best[n[1]];
        });
        calls.put("barge", n -> {
            in(BAD, n[0], 1, 9999);
            in(BAD, n[1], 0, 9999);
            return put(barges, 8, new Barge(n[0], n[1])) - 1;
        });
        calls.put("tide", n -> {
            in(BAD, n[0], 0, 99999);
            in(BAD, n[1], 0, 1);
            List<Integer> sets = new ArrayList<>();
            for (int set = 0; set < 1 << barges.size(); set++) {
                if (sum(set, Barge::weight) <= n[0]) {
                    sets.add(set);
                }
            }
            sets.sort(Comparator.comparingInt((Integer set) -> -sum(set, Barge::freight))
                    .thenComparingInt(set -> sum(set, Barge::weight)).thenComparingInt(set -> set));
            return n[1] == 0 ? sets.get(0) : sum(sets.get(0), Barge::freight);
        });
        calls.put("buyer", n -> {
            in(BAD, n[0], 0, 9999);
            in(BAD, n[1], 0, 999);
            int number = put(buyers, 6, new Buyer(buyers.size(), n[0], n[1])) - 1;
            stopped.add(0);
            return number;
        });
        calls.put("stop", n -> {
            at(buyers, n[0], BAD);
            in(BAD, n[1], 0, 1);
            return stopped.set(n[0], n[1]);
        });
        calls.put("parted", n -> {
            in(NO, n[0], -1, buyers.size() - 1);
            List<Buyer> turns = new ArrayList<>(buyers);
            turns.sort(Comparator.comparingInt((Buyer b) -> -b.pence));
            turns.removeIf(b -> stopped.get(b.number) == 1);
            long left = stock[0];
            long all = 0;
            long asked = 0;
            for (Buyer b : turns) {
                long has = Math.min(left, b.need);
                left -= has;
                all += has * b.pence / 100;
                asked += b.number == n[0] ? has : 0;
            }
            return n[0] < 0 ? all : asked;
        });
        calls.put("count", n -> {
            in(BAD, n[0], 0, 12);
            long[] counts = {day, carts.size(), prices.size(), texts.size(), tape.length(), contracts.size(),
                finds.size(), doors.size(), missed.size(), rows.size(), barges.size(), buyers.size(), pence};
            return counts[n[0]];
        });
    }

    private int sum(int set, ToIntFunction<Barge> of) {
        int sum = 0;
        for (int b = 0; b < barges.size(); b++) {
            sum += (set & 1 << b) != 0 ? of.applyAsInt(barges.get(b)) : 0;
        }
        return sum;
    }

    private long won(List<Integer> hands, int[] heaps) {
        long won = 0;
        for (int i = 0; i < hands.size(); i++) {
            won += wins.getOrDefault(hands.get(i) * 10 + heaps[i], 0);
        }
        return won;
    }

    /** Counts through all ways in base 5 from the last to the first, so that the first ones win. */
    private int[] best(List<Integer> hands) {
        int ways = (int) Math.pow(5, hands.size());
        int[] best = null;
        for (int way = ways - 1; way >= 0; way--) {
            int[] heaps = new int[hands.size()];
            int rest = way;
            int used = 0;
            for (int i = hands.size() - 1; i >= 0; i--) {
                heaps[i] = rest % 5;
                rest /= 5;
                used |= 1 << heaps[i];
            }
            if (Integer.bitCount(used) == heaps.length && (best == null || won(hands, heaps) >= won(hands, best))) {
                best = heaps;
            }
        }
        return best;
    }

    private void nameHost() {
        Class<?>[] sorts = {byte.class, short.class, int.class};
        Class<?>[] rowSorts = {byte[].class, short[].class, int[].class};
        calls.put("sheet", n -> {
            in(BAD, n[0], 0, 3);
            in(BAD, n[1], -1, 2);
            if (n[1] < 0) {
                sheets[n[0]] = null;
                return 1;
            }
            need(n[2] <= 40, BAD);
            try {
                sheets[n[0]] = Array.newInstance(sorts[n[1]], n[2]);
                return 1;
            } catch (NegativeArraySizeException e) {
                return -14;
            }
        });
        calls.put("cell", n -> {
            in(BAD, n[0], 0, 3);
            try {
                Object row = sheets[n[0]];
                if (row instanceof byte[] bytes) {
                    bytes[n[1]] = (byte) n[2];
                } else if (row instanceof short[] shorts) {
                    shorts[n[1]] = (short) n[2];
                } else {
                    ((int[]) row)[n[1]] = n[2];
                }
                return 1;
            } catch (NullPointerException e) {
                return -11;
            } catch (ArrayIndexOutOfBoundsException e) {
                return -12;
            }
        });
        calls.put("copy", n -> {
            in(BAD, n[0], 0, 3);
            in(BAD, n[2], 0, 3);
            try {
                System.arraycopy(sheets[n[0]], n[1], sheets[n[2]], n[3], n[4]);
                return n[4];
            } catch (NullPointerException e) {
                return -11;
            } catch (ArrayStoreException e) {
                return -13;
            } catch (IndexOutOfBoundsException e) {
                return -12;
            }
        });
        calls.put("prices", n -> {
            in(BAD, n[0], 0, 3);
            in(BAD, n[1], 0, 399);
            in(BAD, n[2], 0, 3);
            in(BAD, n[3], 0, 2);
            in(BAD, n[5], 0, 40);
            int came = 0;
            try {
                Object row = rowSorts[n[3]].cast(sheets[n[2]]);
                Array.getLength(row);
                for (int k = 0; k < n[5]; k++) {
                    came += ask("price", n[0], n[1] + k, Array.getInt(row, n[4] + k)) > 0 ? 1 : 0;
                }
                return came;
            } catch (ClassCastException e) {
                return -13;
            } catch (NullPointerException e) {
                return -11;
            } catch (ArrayIndexOutOfBoundsException e) {
                return -12;
            }
        });
        calls.put("taken", n -> {
            in(BAD, n[1], 0, 5);
            Cart c = at(carts, n[0], -11);
            need(KINDS.get(n[1]).isInstance(c), -13);
            return c.weight;
        });
    }
}
