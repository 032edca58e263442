/** Promises 18 to 20: auctions. */
public final class AuctionTest {
    private static Markethall hall(int price) {
        Markethall x = new Markethall();
        x.addStock(price, 50, 10, 500);
        x.addTrader(100000);
        x.addTrader(100000);
        x.addTrader(100000);
        x.issue(0, 0, 1000);
        x.issue(1, 0, 1000);
        x.openAuction(0);
        return x;
    }

    public static void main(String[] args) {
        phases();
        mostTraded();
        leastDifference();
        nearestToLast();
        lowerOfTwo();
        noneToTrade();
        order();
        icebergs();
        washes();
        stopsAndReference();
        others();
        Check.end();
    }

    private static void phases() {
        Markethall x = new Markethall();
        x.addStock(20, 50, 10, 500);
        x.addTrader(1000);
        x.addTrader(1000);
        x.issue(0, 0, 10);
        Check.noIndex("-1", () -> x.openAuction(-1));
        Check.noIndex("1", () -> x.openAuction(1));
        Check.noIndex("-1", () -> x.uncross(-1));
        Check.noIndex("1", () -> x.uncross(1));
        Check.noIndex("-1", () -> x.phaseOf(-1));
        Check.noIndex("1", () -> x.phaseOf(1));
        Check.noOperation("phase c", () -> x.uncross(0));
        Check.due("before", x.openAuction(0), 'c');
        Check.due("now", x.phaseOf(0), 'a');
        Check.due("opened again", x.openAuction(0), 'a');
        x.endDay();
        Check.due("it goes on overnight", x.phaseOf(0), 'a');
        Check.due("uncross", x.uncross(0), 0);
        Check.due("now", x.phaseOf(0), 'c');
        x.limit(0, 0, 0, false, 1, 50);
        x.market(1, 0, 0, true, 1);
        Check.noOperation("phase h", () -> x.uncross(0));
        Check.due("before", x.openAuction(0), 'h');
    }

    private static void mostTraded() {
        Markethall x = hall(20);
        x.limit(2, 0, 0, true, 10, 25);
        x.limit(2, 0, 1, true, 10, 23);
        x.limit(0, 0, 0, false, 5, 21);
        x.limit(1, 0, 1, false, 12, 23);
        x.limit(1, 0, 1, false, 12, 25);
        Check.due("uncross", x.uncross(0), 17);
        Check.due("price", x.lastPrice(0), 23);
        Check.due("price of each", x.tradePrice(2), 23);
        Check.due("trades", x.trades(), 3);
        Check.due("left", x.leftOf(1), 3);
        Check.due("left", x.leftOf(4), 12);
        Check.due("cash", x.cashOf(2), 100000L - 17 * 23);
        Check.due("owed", x.owed(2, 0), 17);
        Check.due("band does not count", x.phaseOf(0), 'c');
    }

    // At 21 and at 22 ten can be traded; the difference is 0 at 22 alone.
    private static void leastDifference() {
        Markethall x = hall(20);
        x.limit(2, 0, 0, true, 10, 22);
        x.limit(2, 0, 0, true, 5, 21);
        x.limit(0, 0, 0, false, 10, 21);
        Check.due("uncross", x.uncross(0), 10);
        Check.due("price", x.lastPrice(0), 22);
        Check.due("best price first", x.stateOf(0), 'd');
        Check.due("left", x.leftOf(1), 5);
    }

    private static void nearestToLast() {
        Markethall x = hall(20);
        x.limit(2, 0, 0, true, 10, 24);
        x.limit(0, 0, 0, false, 10, 21);
        x.uncross(0);
        Check.due("21 is nearer to 20 than 24", x.lastPrice(0), 21);
        Markethall y = hall(30);
        y.limit(2, 0, 0, true, 10, 24);
        y.limit(0, 0, 0, false, 10, 21);
        y.uncross(0);
        Check.due("24 is nearer to 30 than 21", y.lastPrice(0), 24);
    }

    private static void lowerOfTwo() {
        Markethall x = hall(22);
        x.limit(2, 0, 0, true, 10, 24);
        x.limit(0, 0, 0, false, 10, 20);
        x.uncross(0);
        Check.due("20 is as near as 24", x.lastPrice(0), 20);
    }

    private static void noneToTrade() {
        Markethall x = hall(20);
        x.limit(2, 0, 0, true, 10, 20);
        x.limit(0, 0, 0, false, 10, 21);
        x.peg(0, 0, 0, false, 10, 0);
        Check.due("uncross", x.uncross(0), 0);
        Check.due("trades", x.trades(), 0);
        Check.due("last price", x.lastPrice(0), 20);
        Check.due("phase", x.phaseOf(0), 'c');
        Check.due("the orders rest", x.best(0, true), 20);
    }

    private static void order() {
        Markethall x = hall(20);
        x.limit(0, 0, 0, false, 4, 20);
        x.limit(1, 0, 1, false, 4, 19);
        x.limit(0, 0, 0, false, 4, 19);
        x.limit(2, 0, 0, true, 5, 20);
        x.limit(2, 0, 0, true, 5, 21);
        Check.due("uncross", x.uncross(0), 10);
        Check.due("price", x.lastPrice(0), 20);
        Check.due("trades", x.trades(), 4);
        Check.due("first 19, the earlier", x.sellerOf(3), 1);
        Check.due("4", x.tradeQuantity(3), 4);
        Check.due("then 19, the later", x.tradeQuantity(2), 1);
        Check.due("3 to the next", x.tradeQuantity(1), 3);
        Check.due("2 of the one at 20", x.tradeQuantity(0), 2);
        Check.due("left", x.leftOf(0), 2);
    }

    private static void icebergs() {
        Markethall x = hall(20);
        x.iceberg(0, 0, 0, false, 10, 20, 3);
        x.limit(1, 0, 0, false, 10, 20);
        x.limit(2, 0, 0, true, 5, 20);
        Check.due("all that is left counts", x.uncross(0), 5);
        Check.due("one trade", x.trades(), 1);
        Check.due("left", x.leftOf(0), 5);
        Check.due("it shows its peak", x.shown(0, false, 20), 13);
        x.market(2, 0, 0, true, 1);
        Check.due("its turn stays", x.leftOf(0), 4);
        Check.due("of its part", x.shown(0, false, 20), 12);
        x.openAuction(0);
        x.limit(2, 0, 0, true, 2, 20);
        x.uncross(0);
        Check.due("its peak again, or what is left", x.shown(0, false, 20), 12);
        Check.due("left", x.leftOf(0), 2);

        Markethall y = hall(20);
        y.iceberg(0, 0, 0, false, 10, 20, 3);
        y.uncross(0);
        y.market(2, 0, 0, true, 1);
        y.openAuction(0);
        y.uncross(0);
        Check.due("one that has not traded shows what it showed", y.shown(0, false, 20), 2);
    }

    private static void washes() {
        Markethall x = hall(20);
        x.limit(0, 0, 0, false, 4, 20);
        x.limit(0, 0, 0, true, 4, 20);
        Check.due("two of one trader trade", x.uncross(0), 4);
        Check.due("w", x.alarms('w'), 1);
        Check.due("buyer", x.buyerOf(0), 0);
        Check.due("seller", x.sellerOf(0), 0);
        Check.due("cash", x.cashOf(0), 100000L);
        Check.due("position", x.position(0, 0), 1000);
        Check.due("owed", x.owed(0, 0), 0);
        Check.due("isSound", x.isSound(), true);
    }

    private static void stopsAndReference() {
        Markethall x = hall(20);
        x.limit(0, 0, 0, false, 4, 30);
        x.limit(2, 0, 0, true, 3, 30);
        x.stop(2, 0, 0, true, 1, 25);
        x.stop(2, 0, 0, true, 1, 30);
        Check.due("stops do not count", x.uncross(0), 3);
        Check.due("the first one fired", x.stateOf(2), 'd');
        Check.due("the second one, too", x.stateOf(3), 'x');
        Check.due("reference is 30", x.phaseOf(0), 'c');
        x.limit(0, 0, 0, false, 4, 33);
        x.market(2, 0, 0, true, 1);
        Check.due("33 is in the band of 30", x.phaseOf(0), 'c');
        Check.due("trades", x.trades(), 3);
    }

    private static void others() {
        Markethall x = hall(20);
        x.addStock(20, 50, 10, 500);
        x.limit(2, 1, 0, true, 50, 22);
        x.limit(0, 0, 0, false, 4, 20);
        x.market(2, 0, 0, true, 3);
        Check.due("other stocks do not count", x.uncross(0), 0);
        x.openAuction(0);
        x.peg(2, 0, 0, true, 4, 0);
        x.limit(2, 0, 0, true, 1, 20);
        Check.due("nor do pegs", x.uncross(0), 1);
        Check.due("peg", x.leftOf(2), 4);
    }
}
