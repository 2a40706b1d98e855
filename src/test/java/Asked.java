/** A call of DustYards by its name and its numbers (feed, whose number is a long, is none of these). */
final class Asked {
    private Asked() {
    }

    static long of(DustYards x, String call, int... n) {
        switch (call) {
            case "pass": return x.pass(n[0]);
            case "cart": return x.cart(n[0], n[1], n[2], n[3], n[4], n[5]);
            case "cartTold": return x.cartTold(n[0], n[1]);
            case "sift": return x.sift(n[0], n[1]);
            case "fire": return x.fire(n[0], n[1]);
            case "lies": return x.lies(n[0]);
            case "stock": return x.stock(n[0]);
            case "sell": return x.sell(n[0], n[1]);
            case "price": return x.price(n[0], n[1], n[2]);
            case "priceOf": return x.priceOf(n[0], n[1], n[2]);
            case "text": return x.text();
            case "contract": return x.contract(n[0], n[1], n[2]);
            case "contractOf": return x.contractOf(n[0], n[1]);
            case "says": return x.says(n[0], n[1]);
            case "owed": return x.owed(n[0], n[1], n[2]);
            case "find": return x.find(n[0], n[1], n[2]);
            case "whose": return x.whose(n[0]);
            case "finds": return x.finds(n[0]);
            case "door": return x.door(n[0], n[1], n[2], n[3]);
            case "miss": return x.miss(n[0]);
            case "rounds": return x.rounds(n[0], n[1], n[2]);
            case "row": return x.row(n[0], n[1]);
            default: return more(x, call, n);
        }
    }

    private static long more(DustYards x, String call, int[] n) {
        switch (call) {
            case "bid": return x.bid(n[0], n[1], n[2], n[3]);
            case "wins": return x.wins(n[0], n[1], n[2]);
            case "laid": return x.laid(n[0], n[1]);
            case "barge": return x.barge(n[0], n[1]);
            case "tide": return x.tide(n[0], n[1]);
            case "buyer": return x.buyer(n[0], n[1]);
            case "stop": return x.stop(n[0], n[1]);
            case "parted": return x.parted(n[0]);
            case "count": return x.count(n[0]);
            case "sheet": return x.sheet(n[0], n[1], n[2]);
            case "cell": return x.cell(n[0], n[1], n[2]);
            case "copy": return x.copy(n[0], n[1], n[2], n[3], n[4]);
            case "prices": return x.prices(n[0], n[1], n[2], n[3], n[4], n[5]);
            case "taken": return x.taken(n[0], n[1]);
            default: throw new IllegalArgumentException(call);
        }
    }
}
