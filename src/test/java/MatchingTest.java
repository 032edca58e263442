/** How orders are matched, icebergs show, pegs follow, stocks halt and stops fire. */
public final class MatchingTest {
    // Three traders; the first two have shares of the stock 0.
    private static Markethall hall(int price, int band) {
        Markethall x = new Markethall();
        x.addStock(price, 50, band, 500);
        x.addTrader(100000);
        x.addTrader(100000);
        x.addTrader(100000);
        x.issue(0, 0, 1000);
        x.issue(1, 0, 1000);
        return x;
    }

    public static void main(String[] args) {
        bestFirst();
        ownVenueFirst();
        shownFirst();
        earliestTurn();
        icebergs();
        comingIceberg();
        limits();
        pegs();
        comingPegs();
        washes();
        band();
        phases();
        stops();
        stopsInTurn();
        stopsAsTheyCome();
        stopsBehindSplit();
        trades();
        Check.end();
    }

    private static void bestFirst() {
        Markethall x = hall(20, 100);
        x.limit(0, 0, 0, false, 5, 23);
        x.limit(0, 0, 1, false, 5, 21);
        x.limit(0, 0, 0, false, 5, 22);
        Check.due("best to sell", x.best(0, false), 21);
        x.market(2, 0, 0, true, 12);
        Check.due("21, at the other venue", x.tradePrice(2), 21);
        Check.due("then 22", x.tradePrice(1), 22);
        Check.due("then 23", x.tradePrice(0), 23);
        Check.due("left", x.leftOf(0), 3);
        Check.due("cash", x.cashOf(2), 100000L - 105 - 110 - 46);
        x.limit(2, 0, 0, true, 5, 10);
        x.limit(2, 0, 1, true, 5, 12);
        Check.due("best to buy", x.best(0, true), 12);
        x.market(0, 0, 0, false, 6);
        Check.due("12", x.tradePrice(1), 12);
        Check.due("then 10", x.tradePrice(0), 10);
        Check.due("one of", x.tradeQuantity(0), 1);
    }

    private static void ownVenueFirst() {
        Markethall x = hall(20, 100);
        x.limit(0, 0, 0, false, 5, 21);
        x.limit(1, 0, 1, false, 5, 21);
        x.market(2, 0, 1, true, 3);
        Check.due("own venue ahead of the earlier turn", x.sellerOf(0), 1);
        x.market(2, 0, 0, true, 3);
        Check.due("own venue", x.sellerOf(0), 0);
        x.peg(0, 0, 1, false, 5, 0);
        x.market(2, 0, 1, true, 2);
        Check.due("own venue, shown", x.sellerOf(0), 1);
        x.market(2, 0, 1, true, 1);
        Check.due("a peg of the own venue ahead of a limit of the other", x.leftOf(4), 4);
    }

    private static void shownFirst() {
        Markethall x = hall(20, 100);
        x.peg(0, 0, 0, false, 5, 0);
        x.limit(1, 0, 0, false, 5, 21);
        x.market(2, 0, 0, true, 6);
        Check.due("the limit, though the peg is earlier", x.sellerOf(0), 1);
        Check.due("the anchor is gone", x.leftOf(0), 5);
        Check.due("so that nothing has a price", x.stateOf(2), 'x');
        x.limit(1, 0, 0, false, 5, 22);
        x.iceberg(1, 0, 0, false, 5, 22, 1);
        x.market(2, 0, 0, true, 9);
        Check.due("limit", x.leftOf(3), 0);
        Check.due("iceberg, though its turn is new each time", x.leftOf(4), 1);
        Check.due("peg", x.leftOf(0), 5);
    }

    private static void earliestTurn() {
        Markethall x = hall(20, 100);
        x.limit(1, 0, 0, false, 5, 21);
        x.limit(0, 0, 0, false, 5, 21);
        x.limit(1, 0, 0, false, 5, 21);
        x.market(2, 0, 0, true, 12);
        Check.due("left", x.leftOf(0), 0);
        Check.due("left", x.leftOf(1), 0);
        Check.due("left", x.leftOf(2), 3);
        Check.due("trades", x.trades(), 3);
        x.limit(2, 0, 0, true, 5, 19);
        x.limit(2, 0, 0, true, 5, 19);
        x.market(1, 0, 0, false, 6);
        Check.due("left", x.leftOf(4), 0);
        Check.due("left", x.leftOf(5), 4);
    }

    private static void icebergs() {
        Markethall x = hall(20, 100);
        x.iceberg(0, 0, 0, false, 10, 21, 4);
        x.limit(1, 0, 0, false, 2, 21);
        Check.due("shown", x.shown(0, false, 21), 6);
        x.market(2, 0, 0, true, 3);
        Check.due("shown", x.shown(0, false, 21), 3);
        x.market(2, 0, 0, true, 2);
        Check.due("its part is used up and it has a new turn", x.leftOf(1), 1);
        Check.due("shown anew", x.shown(0, false, 21), 5);
        Check.due("left", x.leftOf(0), 6);
        Check.due("two trades", x.tradeQuantity(1), 1);
        x.market(2, 0, 0, true, 6);
        Check.due("1, 4, 1", x.tradeQuantity(2), 1);
        Check.due("1, 4, 1", x.tradeQuantity(1), 4);
        Check.due("1, 4, 1", x.tradeQuantity(0), 1);
        Check.due("what is left is less than the peak", x.shown(0, false, 21), 1);
        x.market(2, 0, 0, true, 6);
        Check.due("done", x.stateOf(0), 'd');
        Check.due("market is cancelled", x.stateOf(5), 'x');
        Check.due("shown", x.shown(0, false, 21), 0);
    }

    private static void comingIceberg() {
        Markethall x = hall(20, 100);
        x.limit(0, 0, 0, false, 7, 20);
        Check.due("iceberg", x.iceberg(2, 0, 0, true, 12, 20, 3), 1);
        Check.due("one trade: what comes shows nothing", x.trades(), 1);
        Check.due("quantity", x.tradeQuantity(0), 7);
        Check.due("rest", x.leftOf(1), 5);
        Check.due("shown", x.shown(0, true, 20), 3);
        x.iceberg(0, 0, 0, false, 5, 19, 2);
        Check.due("price of the one that rests", x.tradePrice(0), 20);
        Check.due("its parts", x.tradeQuantity(1), 3);
        Check.due("its parts", x.tradeQuantity(0), 2);
        Check.due("done", x.stateOf(1), 'd');
        Check.due("done", x.stateOf(2), 'd');
    }

    private static void limits() {
        Markethall x = hall(20, 100);
        x.limit(0, 0, 0, false, 5, 21);
        x.limit(0, 0, 0, false, 5, 23);
        x.limit(2, 0, 0, true, 9, 22);
        Check.due("only as good", x.trades(), 1);
        Check.due("rest", x.leftOf(2), 4);
        Check.due("best", x.best(0, true), 22);
        x.limit(0, 0, 0, false, 3, 22);
        Check.due("as good", x.tradePrice(0), 22);
        Check.due("done", x.stateOf(3), 'd');
        x.limit(0, 0, 0, false, 3, 21);
        Check.due("at the price of the one that rests", x.tradePrice(0), 22);
        Check.due("rest of a seller", x.best(0, false), 21);
        Check.due("shown", x.shown(0, false, 21), 2);
        Check.due("no such price", x.shown(0, false, -5), 0);
        Check.noIndex("stock", () -> x.shown(1, false, 21));
        Check.noIndex("stock", () -> x.best(-1, false));
        Check.noElement("none to buy", () -> x.best(0, true));
    }

    private static void pegs() {
        Markethall x = hall(20, 100);
        x.limit(0, 0, 0, false, 5, 21);
        x.peg(1, 0, 0, false, 5, 2);
        Check.due("pegs show nothing", x.shown(0, false, 23), 0);
        Check.due("best that shows", x.best(0, false), 21);
        x.limit(2, 0, 0, true, 12, 23);
        Check.due("the anchor is traded away, the peg has no price", x.leftOf(1), 5);
        x.limit(0, 0, 0, false, 8, 21);
        Check.due("7 of the limit", x.tradeQuantity(0), 7);
        Check.due("the price of the buyer", x.tradePrice(0), 23);
        Check.due("the peg follows", x.priceOf(1), 23);
        x.limit(0, 0, 0, false, 8, 30);
        x.market(2, 0, 0, true, 3);
        Check.due("1 at 21", x.tradePrice(1), 21);
        Check.due("2 at 30: then the peg is at 32", x.tradePrice(0), 30);
        Check.due("the peg", x.priceOf(1), 32);
        x.market(2, 0, 0, true, 8);
        Check.due("6 at 30 and no anchor", x.tradeQuantity(0), 6);
        Check.due("the peg has not traded", x.leftOf(1), 5);
    }

    // After a split both sides meet at 10.
    private static void comingPegs() {
        Markethall x = hall(20, 100);
        x.limit(0, 0, 0, false, 5, 21);
        x.limit(1, 0, 0, true, 5, 20);
        x.split(0, 2);
        Check.due("best", x.best(0, false), 10);
        Check.due("best", x.best(0, true), 10);
        x.peg(2, 0, 0, true, 4, 1);
        Check.due("9 is not as good as 10", x.trades(), 0);
        x.peg(2, 0, 0, true, 4, 0);
        Check.due("10 is", x.trades(), 1);
        Check.due("price", x.tradePrice(0), 10);
        Check.due("done", x.stateOf(3), 'd');
        x.cancel(1);
        x.peg(2, 0, 0, true, 4, 0);
        Check.due("without a price of its own it is not matched", x.trades(), 1);
        Check.due("it rests", x.stateOf(4), 'o');
        x.cancel(0);
        x.limit(1, 0, 0, true, 1, 9);
        x.peg(0, 0, 0, false, 4, 0);
        Check.due("nor is one to sell", x.trades(), 1);
    }

    private static void washes() {
        Markethall x = hall(20, 100);
        x.limit(1, 0, 0, false, 2, 20);
        x.limit(0, 0, 0, false, 5, 21);
        x.limit(1, 0, 0, false, 5, 22);
        x.limit(0, 0, 0, true, 9, 22);
        Check.due("w", x.alarms('w'), 1);
        Check.due("cancelled", x.stateOf(3), 'x');
        Check.due("what it traded before stays", x.trades(), 1);
        Check.due("none is left", x.leftOf(3), 0);
        Check.due("the other one stays", x.leftOf(1), 5);
        x.limit(0, 0, 0, true, 9, 20);
        Check.due("no better than that, no alarm", x.alarms('w'), 1);
        x.market(0, 0, 0, true, 9);
        Check.due("market", x.alarms('w'), 2);
        Check.due("s is another", x.alarms('s'), 0);
        Markethall y = hall(20, 10);
        y.limit(0, 0, 0, false, 5, 40);
        y.market(0, 0, 0, true, 1);
        Check.due("ahead of the band", y.phaseOf(0), 'c');
        Check.due("w", y.alarms('w'), 1);
    }

    private static void band() {
        Markethall x = hall(20, 10);
        x.limit(0, 0, 0, false, 5, 22);
        x.limit(0, 0, 0, false, 5, 23);
        x.market(2, 0, 0, true, 3);
        Check.due("as much as the band is fine", x.phaseOf(0), 'c');
        x.limit(2, 0, 0, true, 6, 25);
        Check.due("more is not", x.phaseOf(0), 'h');
        Check.due("two are traded before", x.tradeQuantity(0), 2);
        Check.due("what is left of a limit rests", x.leftOf(3), 4);
        Check.due("best", x.best(0, true), 25);
        Check.due("market in a halt", x.market(1, 0, 0, true, 1), -1);
        Check.due("c", x.refused(), 'c');
        Check.due("a limit rests", x.limit(1, 0, 0, false, 1, 25), 4);
        Check.due("unmatched", x.leftOf(4), 1);
        Markethall y = hall(20, 10);
        y.limit(0, 0, 0, true, 5, 17);
        y.market(1, 0, 0, false, 2);
        Check.due("below, too", y.phaseOf(0), 'h');
        Check.due("a market order is cancelled", y.stateOf(1), 'x');
        Check.due("no trade", y.trades(), 0);
        Markethall z = hall(20, 10);
        z.limit(0, 0, 0, false, 5, 22);
        z.limit(0, 0, 0, false, 5, 24);
        z.market(2, 0, 0, true, 5);
        z.endDay();
        z.market(2, 0, 0, true, 5);
        Check.due("the reference is that of the last day's end", z.phaseOf(0), 'c');
        Check.due("trades", z.trades(), 2);
    }

    private static void phases() {
        Markethall x = hall(20, 100);
        x.openAuction(0);
        x.limit(0, 0, 0, false, 5, 20);
        x.limit(2, 0, 0, true, 5, 22);
        x.peg(2, 0, 0, true, 5, 1);
        x.iceberg(2, 0, 0, true, 5, 22, 2);
        x.stop(2, 0, 0, true, 5, 20);
        Check.due("nothing trades in an auction", x.trades(), 0);
        Check.due("price of a peg", x.priceOf(2), 21);
        Check.due("shown", x.shown(0, true, 22), 7);
        Check.due("a stop waits", x.stateOf(4), 'o');
    }

    private static void stops() {
        Markethall x = hall(20, 100);
        x.limit(0, 0, 0, false, 20, 21);
        Check.due("to buy above", x.stop(2, 0, 0, true, 3, 21), 1);
        Check.due("to sell below", x.stop(1, 0, 0, false, 3, 19), 2);
        x.limit(2, 0, 0, true, 4, 18);
        Check.due("none fires", x.stateOf(1), 'o');
        x.limit(1, 0, 0, true, 1, 21);
        Check.due("21 fires it", x.stateOf(1), 'd');
        Check.due("bought", x.tradeQuantity(0), 3);
        Check.due("buyer", x.buyerOf(0), 2);
        Check.due("the other one waits", x.stateOf(2), 'o');
        x.market(0, 0, 0, false, 1);
        Check.due("18 fires it", x.stateOf(2), 'd');
        Check.due("left", x.leftOf(3), 0);
        Check.due("trades", x.trades(), 4);
        x.market(2, 0, 0, false, 1);
        Check.due("last price stays", x.lastPrice(0), 18);
        Check.noOperation("a stop that fired is over", () -> x.cancel(1));
    }

    private static void stopsInTurn() {
        Markethall x = hall(20, 100);
        x.limit(0, 0, 0, false, 1, 20);
        x.limit(0, 0, 0, false, 1, 21);
        x.limit(0, 0, 0, false, 1, 22);
        x.limit(0, 0, 0, false, 1, 23);
        x.stop(2, 0, 0, true, 1, 22);
        x.stop(2, 0, 0, true, 1, 21);
        x.stop(1, 0, 0, true, 1, 21);
        x.limit(2, 0, 0, true, 1, 20);
        Check.due("none", x.trades(), 1);
        x.market(1, 0, 0, true, 1);
        Check.due("all", x.trades(), 4);
        Check.due("one fires another", x.stateOf(4), 'd');
        Check.due("the lowest that may, first", x.buyerOf(1), 2);
        Check.due("behind it the lowest again, which finds 23", x.buyerOf(0), 2);
        Check.due("so that nothing is left", x.stateOf(6), 'x');
        Check.due("price", x.tradePrice(0), 23);
    }

    private static void stopsAsTheyCome() {
        Markethall x = hall(20, 10);
        x.limit(0, 0, 0, false, 4, 21);
        Check.due("it fires as it comes", x.stop(2, 0, 0, true, 3, 20), 1);
        Check.due("done", x.stateOf(1), 'd');
        Check.due("last price", x.lastPrice(0), 21);
        x.stop(1, 0, 0, false, 3, 20);
        Check.due("21 is above 20", x.stateOf(2), 'o');
        x.stop(1, 0, 0, false, 3, 21);
        Check.due("fires and finds none", x.stateOf(3), 'x');
        x.limit(0, 0, 0, false, 4, 30);
        x.stop(2, 0, 0, true, 5, 5);
        Check.due("one of 21, then a halt", x.phaseOf(0), 'h');
        Check.due("the rest is cancelled", x.stateOf(5), 'x');
        x.stop(2, 0, 0, true, 5, 5);
        Check.due("none fires in a halt", x.stateOf(6), 'o');
        x.openAuction(0);
        Check.due("nothing to trade", x.uncross(0), 0);
        Check.due("behind the auction it fires, and halts again", x.stateOf(6), 'x');
        Check.due("phase", x.phaseOf(0), 'h');
    }

    // A split lets a stop be due that nothing has looked at yet.
    private static void stopsBehindSplit() {
        Markethall x = hall(20, 100);
        x.addStock(20, 50, 100, 500);
        x.stop(2, 0, 0, true, 3, 21);
        x.split(0, 2);
        Check.due("it is not looked at behind a split", x.stateOf(0), 'o');
        x.limit(2, 1, 0, true, 1, 5);
        Check.due("nor behind an order for another stock", x.stateOf(0), 'o');
        x.limit(2, 0, 0, true, 1, 5);
        Check.due("behind one for this stock", x.stateOf(0), 'x');

        Markethall y = hall(20, 100);
        y.stop(2, 0, 0, true, 3, 21);
        y.stop(2, 0, 0, true, 3, 21);
        y.split(0, 2);
        y.stop(2, 0, 0, true, 3, 50);
        Check.due("each stop is looked at as it comes itself", y.stateOf(0), 'o');
        y.stop(2, 0, 0, true, 3, 5);
        Check.due("behind one that fired the others are looked at", y.stateOf(0), 'x');
        Check.due("all of them", y.stateOf(1), 'x');
        Check.due("but not this", y.stateOf(2), 'o');
    }

    private static void trades() {
        Markethall x = hall(20, 100);
        x.iceberg(0, 0, 0, false, 160, 20, 1);
        x.limit(1, 0, 0, false, 1, 21);
        x.market(2, 0, 0, true, 161);
        Check.due("trades", x.trades(), 161);
        Check.due("last", x.tradePrice(0), 21);
        Check.due("seller", x.sellerOf(0), 1);
        Check.due("seller", x.sellerOf(1), 0);
        Check.due("149", x.tradePrice(149), 20);
        Check.due("149", x.tradeQuantity(149), 1);
        Check.due("149", x.buyerOf(149), 2);
        Check.noIndex("150", () -> x.tradePrice(150));
        Check.noIndex("150", () -> x.tradeQuantity(150));
        Check.noIndex("150", () -> x.buyerOf(150));
        Check.noIndex("150", () -> x.sellerOf(150));
        Check.noIndex("-1", () -> x.tradePrice(-1));
        Check.noIndex("-1", () -> x.tradeQuantity(-1));
        Check.noIndex("-1", () -> x.buyerOf(-1));
        Check.noIndex("-1", () -> x.sellerOf(-1));
        Check.due("mean of those that are kept", x.meanPrice(), (149.0 * 20 + 21) / 150.0);
        Check.due("filled: the iceberg, the limit, the market order", x.filledShare(), 1.0f);
        x.split(0, 2);
        Check.due("trades are kept as they were", x.tradePrice(0), 21);
        Check.due("isSound", x.isSound(), true);
        Markethall y = hall(20, 100);
        y.limit(0, 0, 0, false, 1, 20);
        y.market(2, 0, 0, true, 1);
        Check.noIndex("there is but one", () -> y.tradePrice(1));
        Check.due("the one", y.tradePrice(0), 20);
    }
}
