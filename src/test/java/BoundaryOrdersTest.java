/**
 * The sentences of the Terms on orders, prices, phases, matching, stops, trades, auctions and alarms, each on both sides
 * of its boundary.
 */
public final class BoundaryOrdersTest {
    public static void main(String[] args) {
        atFirst();
        refusedFirstOfAll();
        refusedInPhases();
        refusedForShares();
        sharesOfOthersAndWhatIsLeft();
        pegAtLeastOne();
        pegAnchors();
        pegWithoutAny();
        showsAtMostItsPeak();
        asGoodAsItsOwn();
        pegsOwnPrice();
        bestOfAll();
        ofTheSameTrader();
        moreThanTheBand();
        bandOfTheReference();
        partsThatAreShown();
        whatIsLeftRests();
        stopsAtTheirTrigger();
        stopsInPhases();
        stopsOfTheStockAtHand();
        stopsNotLookedAt();
        lowestNumberFirst();
        last150Trades();
        tradedWhole();
        auctionInAnyPhase();
        nothingCanBeTraded();
        mostCanBeTraded();
        auctionTies();
        auctionByPriceAndTurn();
        auctionIcebergs();
        auctionOfOne();
        fifthCancel();
        fifthCancelOfWhoTraded();
        Check.end();
    }

    // Traders 0 and 1 have 1000 shares of the stock 0 each; 2 has none.
    private static Markethall hall(int price, int band) {
        Markethall x = new Markethall();
        x.addStock(price, 50, band, 500);
        x.addStock(price, 50, band, 500);
        x.addTrader(1000000);
        x.addTrader(1000000);
        x.addTrader(1000000);
        x.issue(0, 0, 1000);
        x.issue(1, 0, 1000);
        return x;
    }

    private static Markethall hall() {
        return hall(20, 100);
    }

    // "a position, settled shares and located shares, 0 at first"; "the house has cash, its fund, and positions, 0 at first".
    private static void atFirst() {
        Markethall x = hall();
        Check.due("position", x.position(2, 1), 0);
        Check.due("settled", x.settled(2, 1), 0);
        Check.due("owed", x.owed(2, 1), 0);
        Check.due("located", x.limit(2, 1, 0, false, 1, 20), -1);
        Check.due("house", x.houseOf(1), 0);
        Check.due("fund", x.fund(), 0L);
        Check.due("in", x.isOut(2), false);
        Check.due("phase", x.phaseOf(1), 'c');
    }

    // "'k' the trader is out": first of all, for each kind, in each phase.
    private static void refusedFirstOfAll() {
        Markethall x = hall();
        x.kill(2);
        for (int phase = 0; phase < 2; phase++) {
            for (int side = 0; side < 2; side++) {
                boolean isBuy = side == 0;
                Check.due("limit", x.limit(2, 0, 0, isBuy, 1, 20), -1);
                Check.due("k", x.refused(), 'k');
                Check.due("iceberg", x.iceberg(2, 0, 0, isBuy, 1, 20, 1), -1);
                Check.due("k", x.refused(), 'k');
                Check.due("peg", x.peg(2, 0, 0, isBuy, 1, 0), -1);
                Check.due("k", x.refused(), 'k');
                Check.due("market", x.market(2, 0, 0, isBuy, 1), -1);
                Check.due("k before c and b", x.refused(), 'k');
                Check.due("stop", x.stop(2, 0, 0, isBuy, 1, 20), -1);
                Check.due("k", x.refused(), 'k');
            }
            x.openAuction(0);
        }
        Check.due("one who is in", x.limit(1, 0, 0, true, 1, 20), 0);
        Check.due("was not refused", x.refused(), '-');
    }

    // "'c' the stock is not in the phase 'c', for a market order": for no other kind, and of this stock alone.
    private static void refusedInPhases() {
        Markethall x = hall(20, 10);
        Check.due("in c", x.market(2, 0, 0, true, 1), 0);
        x.limit(0, 0, 0, false, 5, 30);
        x.market(2, 0, 0, true, 1);
        Check.due("halted", x.phaseOf(0), 'h');
        for (int i = 0; i < 2; i++) {
            char phase = x.phaseOf(0);
            int next = 3 + 4 * i;
            Check.due("market in " + phase, x.market(2, 0, 0, true, 1), -1);
            Check.due("letter in " + phase, x.refused(), 'c');
            Check.due("c before b in " + phase, x.market(2, 0, 0, false, 1), -1);
            Check.due("letter in " + phase, x.refused(), 'c');
            Check.due("b of another kind in " + phase, x.limit(2, 0, 0, false, 1, 20), -1);
            Check.due("letter in " + phase, x.refused(), 'b');
            Check.due("limit in " + phase, x.limit(2, 0, 0, true, 1, 5), next);
            Check.due("iceberg in " + phase, x.iceberg(2, 0, 0, true, 1, 5, 1), next + 1);
            Check.due("peg in " + phase, x.peg(2, 0, 0, true, 1, 1), next + 2);
            Check.due("stop in " + phase, x.stop(2, 0, 0, true, 1, 500), next + 3);
            Check.due("letter in " + phase, x.refused(), '-');
            x.openAuction(0);
        }
        Check.due("the other stock is in c", x.market(2, 1, 0, true, 1), 11);
        x.uncross(0);
        Check.due("in c again", x.market(1, 0, 0, false, 1), 12);
    }

    // "its quantity and what is left of the trader's orders to sell this stock, stops, too, are together more than the
    // position, 0 at least, plus the located shares".
    private static void refusedForShares() {
        Markethall x = hall();
        x.issue(2, 0, 10);
        Check.due("11 of 10", x.limit(2, 0, 0, false, 11, 50), -1);
        Check.due("b", x.refused(), 'b');
        Check.due("10 of 10", x.limit(2, 0, 0, false, 10, 50), 0);
        Check.due("1 of 0", x.market(2, 0, 0, false, 1), -1);
        x.locate(2, 0, 5);
        Check.due("6 of 5 located", x.stop(2, 0, 0, false, 6, 1), -1);
        Check.due("5 of 5 located", x.stop(2, 0, 0, false, 5, 1), 1);
        x.locate(2, 0, 4);
        Check.due("a stop counts: 5 of 4", x.peg(2, 0, 0, false, 5, 1), -1);
        Check.due("4 of 4", x.peg(2, 0, 0, false, 4, 1), 2);
        x.locate(2, 0, 3);
        Check.due("a peg counts: 4 of 3", x.iceberg(2, 0, 0, false, 4, 50, 1), -1);
        Check.due("3 of 3", x.iceberg(2, 0, 0, false, 3, 50, 1), 3);
        Check.due("what an iceberg hides counts", x.limit(2, 0, 0, false, 1, 50), -1);

        Markethall y = hall();
        y.locate(2, 0, 20);
        y.limit(0, 0, 0, true, 12, 20);
        y.market(2, 0, 0, false, 12);
        Check.due("position", y.position(2, 0), -12);
        Check.due("it counts as 0: 21 of 20", y.limit(2, 0, 0, false, 21, 50), -1);
        Check.due("20 of 20", y.limit(2, 0, 0, false, 20, 50), 2);
        y.limit(0, 0, 0, false, 13, 20);
        y.market(2, 0, 0, true, 12);
        Check.due("position", y.position(2, 0), 0);
        Check.due("0 gives none", y.limit(2, 0, 0, false, 1, 50), -1);
        y.market(2, 0, 0, true, 1);
        Check.due("2 of 1", y.limit(2, 0, 0, false, 2, 50), -1);
        Check.due("1 of 1", y.limit(2, 0, 0, false, 1, 50), 6);
    }

    private static void sharesOfOthersAndWhatIsLeft() {
        Markethall x = hall();
        x.issue(2, 0, 10);
        x.issue(2, 1, 10);
        x.limit(2, 0, 0, false, 10, 40);
        Check.due("those of another stock do not count", x.limit(2, 1, 0, false, 10, 40), 1);
        Check.due("nor those of another trader", x.limit(1, 0, 0, false, 1000, 40), 2);
        Check.due("nor those to buy", x.limit(2, 0, 0, true, 1000, 1), 3);
        Check.due("to buy needs no shares", x.limit(2, 0, 0, true, 1000, 1), 4);
        x.market(0, 0, 0, true, 4);
        Check.due("6 are left, of a position of 6", x.position(2, 0) - x.leftOf(0), 0);
        Check.due("none more", x.limit(2, 0, 0, false, 1, 40), -1);
        x.cancel(0);
        Check.due("7 of 6", x.limit(2, 0, 0, false, 7, 40), -1);
        Check.due("what is over does not count: 6 of 6", x.limit(2, 0, 0, false, 6, 40), 6);
    }

    // "less its offset, if this is at least 1".
    private static void pegAtLeastOne() {
        Markethall x = hall();
        x.limit(1, 0, 0, true, 1, 7);
        Check.due("offset 6", x.priceOf(x.peg(1, 0, 0, true, 1, 6)), 1);
        int none = x.peg(1, 0, 0, true, 1, 7);
        Check.noElement("offset 7 gives 0", () -> x.priceOf(none));
        int below = x.peg(1, 0, 0, true, 1, 99);
        Check.noElement("offset 99 gives less", () -> x.priceOf(below));
        Check.due("it rests all the same", x.stateOf(below), 'o');
        x.market(0, 0, 0, false, 3);
        Check.due("at 7", x.tradePrice(0), 7);
        Check.due("then none has a price: the anchor is gone", x.trades(), 1);
        Check.noElement("nor is it told", () -> x.priceOf(1));
    }

    // "the greatest price of limits and icebergs to buy this stock that rest, at either venue", "the least one of those to
    // sell plus its offset".
    private static void pegAnchors() {
        Markethall x = hall();
        int buy = x.peg(2, 0, 0, true, 1, 2);
        int sell = x.peg(0, 0, 0, false, 1, 2);
        x.stop(2, 0, 0, true, 1, 25);
        x.stop(0, 0, 0, false, 1, 15);
        x.limit(2, 1, 0, true, 1, 19);
        Check.noElement("stops, pegs, the other stock and the other side give none", () -> x.priceOf(buy));
        x.limit(2, 0, 0, true, 1, 17);
        Check.due("a limit", x.priceOf(buy), 15);
        Check.noElement("not of the other side", () -> x.priceOf(sell));
        x.iceberg(2, 0, 1, true, 5, 18, 1);
        Check.due("an iceberg of the other venue", x.priceOf(buy), 16);
        x.limit(2, 0, 0, true, 1, 17);
        Check.due("not the latest, but the greatest", x.priceOf(buy), 16);
        x.limit(0, 0, 1, false, 1, 9999);
        Check.due("above 9999", x.priceOf(sell), 10001);
        x.iceberg(0, 0, 0, false, 5, 23, 1);
        Check.due("the least", x.priceOf(sell), 25);
        x.limit(0, 0, 0, false, 1, 24);
        Check.due("not the latest, but the least", x.priceOf(sell), 25);
        x.cancel(9);
        Check.due("the next one", x.priceOf(sell), 26);
    }

    // "without any, it has none": such a peg is not matched with.
    private static void pegWithoutAny() {
        Markethall x = hall();
        x.peg(0, 0, 0, false, 5, 0);
        Check.due("nothing has a price", x.stateOf(x.market(2, 0, 0, true, 1)), 'x');
        x.limit(1, 0, 0, false, 1, 22);
        x.market(2, 0, 1, true, 1);
        Check.due("the limit shows", x.sellerOf(0), 1);
        x.limit(1, 0, 0, false, 1, 22);
        x.market(2, 0, 0, true, 2);
        Check.due("the peg had a price until the limit was gone", x.trades(), 2);
        x.limit(1, 0, 0, false, 1, 23);
        x.peg(2, 0, 0, true, 5, 0);
        Check.due("a peg that comes without any is not matched", x.trades(), 2);
        Check.noElement("nothing to buy shows", () -> x.best(0, true));
        Markethall y = hall();
        y.limit(2, 0, 0, true, 5, 20);
        y.peg(0, 0, 0, false, 5, 0);
        Check.due("nor is one to sell", y.trades(), 0);
        Check.due("it rests", y.stateOf(1), 'o');
    }

    // "It shows what is left, an iceberg at most its peak of it; pegs show nothing."
    private static void showsAtMostItsPeak() {
        Markethall x = hall();
        x.iceberg(0, 0, 0, false, 4, 25, 5);
        Check.due("less than its peak", x.shown(0, false, 25), 4);
        x.iceberg(0, 0, 0, false, 5, 26, 5);
        Check.due("its peak", x.shown(0, false, 26), 5);
        x.iceberg(0, 0, 0, false, 6, 27, 5);
        Check.due("more than its peak", x.shown(0, false, 27), 5);
        x.limit(0, 0, 1, false, 6, 27);
        Check.due("at both venues", x.shown(0, false, 27), 11);
        x.peg(0, 0, 0, false, 6, 0);
        x.stop(0, 0, 0, false, 6, 1);
        Check.due("not a peg", x.shown(0, false, 25), 4);
        Check.due("not a stop", x.shown(0, false, 1), 0);
        Check.due("not the other side", x.shown(0, true, 25), 0);
        Check.due("not the other stock", x.shown(1, false, 25), 0);
        Check.due("best", x.best(0, false), 25);
        x.cancel(0);
        Check.due("the best one that shows", x.best(0, false), 26);
        Markethall y = hall();
        y.peg(0, 0, 0, false, 6, 0);
        y.stop(0, 0, 0, false, 6, 1);
        Check.noElement("none that shows", () -> y.best(0, false));
        y.openAuction(0);
        y.iceberg(0, 0, 0, false, 6, 27, 5);
        Check.due("one that comes in an auction shows its peak", y.shown(0, false, 27), 5);
        y.iceberg(0, 0, 0, false, 4, 27, 5);
        Check.due("or what is left", y.shown(0, false, 27), 9);
        Check.due("best", y.best(0, false), 27);
    }

    // "A limit, iceberg or peg is matched only if that price is as good as its own, or better".
    private static void asGoodAsItsOwn() {
        for (int kind = 0; kind < 2; kind++) {
            for (int price = 20; price <= 22; price++) {
                Markethall x = hall();
                x.limit(0, 0, 0, false, 5, 21);
                x.limit(1, 0, 1, true, 5, 10);
                int order = kind == 0 ? x.limit(2, 0, 0, true, 5, price) : x.iceberg(2, 0, 0, true, 5, price, 2);
                Check.due("to buy at " + price, x.trades(), price < 21 ? 0 : 1);
                Check.due("state", x.stateOf(order), price < 21 ? 'o' : 'd');
            }
            for (int price = 18; price <= 20; price++) {
                Markethall x = hall();
                x.limit(2, 0, 0, true, 5, 19);
                x.limit(1, 0, 1, false, 5, 30);
                int order = kind == 0 ? x.limit(0, 0, 0, false, 5, price) : x.iceberg(0, 0, 0, false, 5, price, 2);
                Check.due("to sell at " + price, x.trades(), price > 19 ? 0 : 1);
                Check.due("state", x.stateOf(order), price > 19 ? 'o' : 'd');
            }
        }
    }

    // A split by 2 lets those to buy at 20 and those to sell at 21 meet at 10.
    private static Markethall met() {
        Markethall x = hall();
        x.limit(0, 0, 0, false, 5, 21);
        x.limit(1, 0, 0, true, 5, 20);
        x.split(0, 2);
        return x;
    }

    // "a peg's own price is that it has as it comes".
    private static void pegsOwnPrice() {
        Markethall x = met();
        x.peg(2, 0, 0, true, 5, 1);
        Check.due("9 is not as good as 10", x.trades(), 0);
        x.peg(2, 0, 0, true, 5, 0);
        Check.due("10 is as good", x.tradeQuantity(0), 5);
        Markethall y = met();
        y.locate(2, 0, 50);
        y.peg(2, 0, 0, false, 5, 1);
        Check.due("11 is not as good as 10", y.trades(), 0);
        y.peg(2, 0, 0, false, 5, 0);
        Check.due("10 is as good", y.tradeQuantity(0), 5);
        Markethall z = met();
        z.limit(1, 0, 0, true, 1, 9);
        z.cancel(1);
        z.peg(2, 0, 0, true, 5, 8);
        Check.due("9 less 8 is not as good as 10", z.trades(), 0);
        Check.due("it rests at 1", z.priceOf(3), 1);
        z.peg(2, 0, 0, true, 5, 9);
        Check.due("it has none", z.trades(), 0);
        Check.noElement("it has none", () -> z.priceOf(4));
    }

    // "the best price, then one at the order's own venue, then one that shows ahead of one that does not, then the earliest
    // turn".
    private static void bestOfAll() {
        Markethall x = hall();
        x.limit(0, 0, 0, false, 1, 22);
        x.limit(1, 0, 1, false, 1, 21);
        x.market(2, 0, 0, true, 1);
        Check.due("price ahead of venue", x.sellerOf(0), 1);
        x.peg(1, 0, 1, false, 1, 0);
        x.limit(1, 0, 1, false, 1, 22);
        x.cancel(0);
        x.peg(0, 0, 0, false, 1, 0);
        x.market(2, 0, 0, true, 1);
        Check.due("venue ahead of what shows", x.sellerOf(0), 0);
        x.market(2, 0, 1, true, 1);
        Check.due("what shows", x.leftOf(4), 0);
        Check.due("ahead of the earlier turn", x.leftOf(3), 1);

        Markethall y = hall();
        y.limit(2, 0, 0, true, 1, 18);
        y.limit(1, 0, 1, true, 1, 19);
        y.market(0, 0, 0, false, 1);
        Check.due("to sell: price ahead of venue", y.buyerOf(0), 1);
        y.limit(1, 0, 0, true, 1, 18);
        y.limit(2, 0, 1, true, 1, 18);
        y.market(0, 0, 1, false, 1);
        Check.due("venue ahead of the turn", y.leftOf(4), 0);
        y.market(0, 0, 0, false, 1);
        Check.due("the earliest turn", y.leftOf(0), 0);
        y.market(0, 0, 1, false, 1);
        Check.due("the other venue where the own has none", y.leftOf(3), 0);
    }

    // "If the best order is of the same trader, what is left of the order that came is cancelled, with an alarm 'w'."
    private static void ofTheSameTrader() {
        Markethall x = hall();
        x.limit(0, 0, 0, false, 5, 21);
        x.limit(0, 0, 0, true, 5, 20);
        Check.due("20 is not as good: no alarm", x.alarms('w'), 0);
        Check.due("it rests", x.stateOf(1), 'o');
        x.limit(0, 0, 0, true, 5, 21);
        Check.due("21 is as good: an alarm", x.alarms('w'), 1);
        Check.due("cancelled", x.stateOf(2), 'x');
        Check.due("none is left", x.leftOf(2), 0);
        Check.due("the one that rests stays", x.leftOf(0), 5);
        x.limit(1, 0, 1, false, 5, 21);
        x.market(0, 0, 1, true, 5);
        Check.due("the best one is of another: no alarm", x.alarms('w'), 1);
        Check.due("traded", x.trades(), 1);
        x.market(0, 0, 1, true, 5);
        Check.due("the next one is not", x.alarms('w'), 2);
        x.limit(1, 0, 1, false, 3, 21);
        x.market(0, 0, 1, true, 3);
        Check.due("all is traded before: no alarm", x.alarms('w'), 2);
        x.openAuction(0);
        x.limit(0, 0, 0, true, 5, 21);
        Check.due("in an auction it rests: no alarm", x.alarms('w'), 2);
        Check.due("no other alarm", x.alarms('s'), 0);
        Markethall y = hall(20, 10);
        y.limit(0, 0, 0, false, 5, 23);
        y.market(0, 0, 0, true, 1);
        Check.due("ahead of the band", y.alarms('w'), 1);
        Check.due("phase", y.phaseOf(0), 'c');
    }

    // "if 100 times the difference of the price and the reference is more than the band times the reference".
    private static void moreThanTheBand() {
        inBand(100, 1, 101);
        inBand(100, 1, 99);
        outOfBand(100, 1, 102);
        outOfBand(100, 1, 98);
        inBand(99, 1, 99);
        outOfBand(99, 1, 100);
        outOfBand(99, 1, 98);
        inBand(33, 10, 36);
        outOfBand(33, 10, 37);
        inBand(33, 10, 30);
        outOfBand(33, 10, 29);
        inBand(50, 100, 100);
        outOfBand(50, 100, 101);
        inBand(50, 100, 1);
        inBand(1, 100, 2);
        outOfBand(1, 100, 3);
        outOfBand(1, 99, 2);
        inBand(9999, 100, 1);
        inBand(5000, 99, 9950);
        outOfBand(5000, 99, 9951);
        inBand(5000, 99, 50);
        outOfBand(5000, 99, 49);
    }

    private static void inBand(int reference, int band, int price) {
        Check.due("band " + band + " of " + reference + " at " + price, phaseBehind(reference, band, price), 'c');
    }

    private static void outOfBand(int reference, int band, int price) {
        Check.due("band " + band + " of " + reference + " at " + price, phaseBehind(reference, band, price), 'h');
    }

    private static char phaseBehind(int reference, int band, int price) {
        Markethall x = hall(reference, band);
        boolean isAbove = price >= reference;
        x.limit(0, 0, 0, !isAbove, 1, price);
        int order = x.market(1, 0, 0, isAbove, 1);
        boolean isHalted = x.phaseOf(0) == 'h';
        Check.due("trades at " + price, x.trades(), isHalted ? 0 : 1);
        Check.due("last price", x.lastPrice(0), isHalted ? reference : price);
        Check.due("order", x.stateOf(order), isHalted ? 'x' : 'd');
        Check.due("the one that rests", x.stateOf(0), isHalted ? 'o' : 'd');
        Check.due("the other stock", x.phaseOf(1), 'c');
        return x.phaseOf(0);
    }

    // The reference is not the last price: it is set by addStock, uncross, the end of a day and split alone.
    private static void bandOfTheReference() {
        Markethall x = hall(20, 10);
        x.limit(0, 0, 0, false, 1, 22);
        x.limit(0, 0, 0, false, 1, 24);
        x.market(2, 0, 0, true, 1);
        Check.due("last price", x.lastPrice(0), 22);
        x.market(2, 0, 0, true, 1);
        Check.due("24 is in the band of 22, but not of 20", x.phaseOf(0), 'h');
        x.endDay();
        Check.due("a night does not end a halt", x.phaseOf(0), 'h');
        Check.due("market", x.market(2, 0, 0, true, 1), -1);
        x.openAuction(0);
        x.uncross(0);
        x.market(2, 0, 0, true, 1);
        Check.due("24 is in the band of 22", x.tradePrice(0), 24);
        Markethall y = hall(20, 10);
        y.limit(0, 0, 0, false, 1, 22);
        y.limit(0, 0, 0, false, 1, 24);
        y.market(2, 0, 0, true, 1);
        y.openAuction(0);
        y.uncross(0);
        y.market(2, 0, 0, true, 1);
        Check.due("the reference behind an auction without a trade is the last price", y.tradePrice(0), 24);
        Markethall z = hall(20, 10);
        z.limit(0, 0, 0, false, 1, 22);
        z.market(2, 0, 0, true, 1);
        z.endDay();
        z.limit(0, 0, 0, false, 1, 24);
        z.market(2, 0, 0, true, 1);
        Check.due("24 is in the band of 22 behind a day's end", z.phaseOf(0), 'c');
        z.limit(0, 0, 0, false, 1, 25);
        z.market(2, 0, 0, true, 1);
        Check.due("25 is not", z.phaseOf(0), 'h');
    }

    // "of an iceberg at most what is left of its part that is shown; when this is used up, it shows anew, with a new turn".
    private static void partsThatAreShown() {
        Markethall x = hall();
        x.iceberg(0, 0, 0, false, 7, 21, 3);
        x.limit(1, 0, 0, false, 1, 21);
        x.market(2, 0, 0, true, 2);
        Check.due("1 of its part is left", x.shown(0, false, 21), 2);
        x.market(2, 0, 0, true, 1);
        Check.due("its turn was kept until then", x.leftOf(0), 4);
        Check.due("it shows anew", x.shown(0, false, 21), 4);
        x.market(2, 0, 0, true, 2);
        Check.due("the limit is ahead now", x.sellerOf(1), 1);
        Check.due("then the iceberg", x.sellerOf(0), 0);
        Check.due("left", x.leftOf(0), 3);
        x.market(2, 0, 0, true, 2);
        Check.due("it shows 1 that is left, not 3", x.shown(0, false, 21), 1);
        x.market(2, 0, 0, true, 2);
        Check.due("whole", x.stateOf(0), 'd');
        Check.due("of the market order 1 was traded", x.tradeQuantity(0), 1);
        Check.due("the rest was cancelled", x.stateOf(6), 'x');
        Markethall y = hall();
        y.iceberg(0, 0, 0, false, 4, 21, 2);
        y.market(2, 0, 0, true, 2);
        y.limit(1, 0, 0, false, 1, 21);
        y.market(2, 0, 0, true, 1);
        Check.due("the new turn is ahead of one that came behind it", y.sellerOf(0), 0);
    }

    // "What is left of a limit, iceberg or peg rests with a turn of its own; of a market order, it is cancelled."
    private static void whatIsLeftRests() {
        Markethall x = hall();
        x.limit(0, 0, 0, false, 3, 20);
        Check.due("3 of 3", x.stateOf(x.limit(2, 0, 0, true, 3, 20)), 'd');
        x.limit(0, 0, 0, false, 3, 20);
        int four = x.limit(2, 0, 0, true, 4, 20);
        Check.due("3 of 4", x.stateOf(four), 'o');
        Check.due("1 is left", x.leftOf(four), 1);
        Check.due("it shows", x.shown(0, true, 20), 1);
        x.cancel(four);
        x.limit(0, 0, 0, false, 3, 20);
        int five = x.iceberg(2, 0, 0, true, 5, 20, 9);
        Check.due("2 are left", x.shown(0, true, 20), 2);
        x.market(0, 0, 0, false, 2);
        Check.due("they are traded", x.stateOf(five), 'd');
        Check.due("3 of 3 of a market order", marketOf(3), 'd');
        Check.due("3 of 4 of a market order", marketOf(4), 'x');
        Markethall y = hall();
        y.limit(0, 0, 0, false, 1, 20);
        y.limit(1, 0, 0, true, 2, 20);
        y.limit(2, 0, 0, true, 1, 20);
        y.market(0, 0, 0, false, 1);
        Check.due("what is left has a turn ahead of a later one", y.stateOf(1), 'd');
        y.market(0, 0, 0, false, 1);
        Check.due("then the later one", y.stateOf(2), 'd');
    }

    private static char marketOf(int quantity) {
        Markethall x = hall();
        x.limit(0, 0, 0, false, 3, 20);
        char state = x.stateOf(x.market(2, 0, 0, true, quantity));
        Check.due("nothing of it rests", x.shown(0, true, 20), 0);
        return state;
    }

    // "A stop to buy fires if the last price of its stock is at least its trigger, one to sell if it is at most this".
    private static void stopsAtTheirTrigger() {
        Check.due("to buy, 19 of 20", stopAsItComes(true, 19), 'x');
        Check.due("to buy, 20 of 20", stopAsItComes(true, 20), 'x');
        Check.due("to buy, 21 of 20", stopAsItComes(true, 21), 'o');
        Check.due("to sell, 19 of 20", stopAsItComes(false, 19), 'o');
        Check.due("to sell, 20 of 20", stopAsItComes(false, 20), 'x');
        Check.due("to sell, 21 of 20", stopAsItComes(false, 21), 'x');
        for (int trigger = 22; trigger <= 24; trigger++) {
            Markethall x = hall();
            x.stop(1, 0, 0, true, 1, trigger);
            x.limit(0, 0, 0, false, 1, 23);
            x.market(2, 0, 0, true, 1);
            Check.due("to buy, behind a trade at 23: " + trigger, x.stateOf(0), trigger <= 23 ? 'x' : 'o');
        }
        for (int trigger = 16; trigger <= 18; trigger++) {
            Markethall x = hall();
            x.stop(1, 0, 0, false, 1, trigger);
            x.limit(2, 0, 0, true, 1, 17);
            x.market(0, 0, 0, false, 1);
            Check.due("to sell, behind a trade at 17: " + trigger, x.stateOf(0), trigger >= 17 ? 'x' : 'o');
        }
    }

    private static char stopAsItComes(boolean isBuy, int trigger) {
        Markethall x = hall();
        return x.stateOf(x.stop(1, 0, 0, isBuy, 1, trigger));
    }

    // "when the stock is in 'c'"; "it is looked at behind ... each auction".
    private static void stopsInPhases() {
        Markethall x = hall(20, 10);
        x.openAuction(0);
        int auction = x.stop(1, 0, 0, true, 1, 20);
        Check.due("it waits in an auction", x.stateOf(auction), 'o');
        x.endDay();
        Check.due("it waits overnight", x.stateOf(auction), 'o');
        x.uncross(0);
        Check.due("it fires behind an auction without a trade", x.stateOf(auction), 'x');
        // The order that moves the last price halts the stock.
        x.limit(0, 0, 0, false, 1, 22);
        x.limit(0, 0, 0, false, 1, 23);
        int halted = x.stop(1, 0, 0, true, 1, 22);
        x.market(2, 0, 0, true, 2);
        Check.due("last price", x.lastPrice(0), 22);
        Check.due("halted", x.phaseOf(0), 'h');
        Check.due("it waits in a halt", x.stateOf(halted), 'o');
        int coming = x.stop(1, 0, 0, true, 1, 22);
        Check.due("one that comes waits, too", x.stateOf(coming), 'o');
        x.openAuction(0);
        Check.due("and still", x.stateOf(halted), 'o');
        x.uncross(0);
        Check.due("it fires behind the auction", x.stateOf(halted), 'd');
        Check.due("23 is in the band of 22", x.tradePrice(0), 23);
        Check.due("the other one, too", x.stateOf(coming), 'x');
    }

    // "of the stock at hand".
    private static void stopsOfTheStockAtHand() {
        Markethall x = hall(20, 100);
        int one = x.stop(2, 0, 0, true, 1, 21);
        int other = x.stop(2, 1, 0, true, 1, 21);
        x.limit(0, 0, 0, false, 1, 21);
        x.market(1, 0, 0, true, 1);
        Check.due("of this stock", x.stateOf(one), 'x');
        Check.due("not of the other", x.stateOf(other), 'o');
        Check.due("whose last price stays", x.lastPrice(1), 20);
    }

    // A split makes stops due; nothing looks at them but what the sentence names.
    private static void stopsNotLookedAt() {
        Markethall x = hall();
        int stop = x.stop(2, 0, 0, true, 3, 21);
        x.limit(1, 0, 0, true, 1, 5);
        x.split(0, 2);
        x.cancel(1);
        Check.due("not behind a cancel", x.stateOf(stop), 'o');
        x.limit(2, 0, 0, false, 1, 5);
        Check.due("not behind one that is refused", x.stateOf(stop), 'o');
        x.limit(2, 1, 0, true, 1, 5);
        Check.due("not behind one for another stock", x.stateOf(stop), 'o');
        x.stop(2, 0, 0, true, 1, 50);
        Check.due("not as another one comes", x.stateOf(stop), 'o');
        x.kill(0);
        x.dividend(0, 1);
        x.endDay();
        Check.due("not behind a day", x.stateOf(stop), 'o');
        x.openAuction(0);
        x.limit(1, 0, 0, true, 1, 5);
        Check.due("not behind one that rests in an auction", x.stateOf(stop), 'o');
        x.uncross(0);
        Check.due("behind the auction", x.stateOf(stop), 'x');
        Markethall y = hall();
        int other = y.stop(2, 0, 0, true, 3, 21);
        y.split(0, 2);
        y.limit(1, 0, 0, true, 1, 5);
        Check.due("behind one that came and was matched, with nothing", y.stateOf(other), 'x');
    }

    // "of several, the one with the lowest number fires first".
    private static void lowestNumberFirst() {
        Markethall x = hall();
        x.stop(1, 0, 0, true, 1, 22);
        x.stop(2, 0, 0, true, 1, 21);
        x.limit(0, 0, 0, false, 1, 22);
        x.limit(0, 0, 0, false, 1, 23);
        x.limit(0, 0, 0, false, 1, 24);
        x.market(0, 1, 0, true, 1);
        x.market(1, 0, 0, true, 1);
        Check.due("trades", x.trades(), 3);
        Check.due("the lower number, though its trigger is higher", x.buyerOf(1), 1);
        Check.due("then the other one", x.buyerOf(0), 2);
        Markethall y = hall();
        y.stop(1, 0, 0, true, 1, 23);
        y.stop(2, 0, 0, true, 1, 22);
        y.stop(2, 0, 0, true, 1, 22);
        y.limit(0, 0, 0, false, 1, 22);
        y.limit(0, 0, 0, false, 1, 23);
        y.limit(0, 0, 0, false, 1, 24);
        y.limit(0, 0, 0, false, 1, 25);
        y.market(0, 1, 0, true, 1);
        y.market(1, 0, 0, true, 1);
        Check.due("behind a stop that fired it is looked at the lowest again", y.buyerOf(1), 1);
        Check.due("trades", y.trades(), 4);
        Check.due("the last one", y.buyerOf(0), 2);
    }

    // "The last 150 trades are kept": the turn of the rows, and the mean of those that are kept.
    private static void last150Trades() {
        for (int count = 149; count <= 152; count++) {
            Markethall x = hall();
            x.limit(1, 0, 0, false, 2, 19);
            x.market(2, 0, 0, true, 2);
            x.iceberg(0, 0, 0, false, count - 2, 20, 1);
            x.market(2, 0, 0, true, count - 2);
            x.limit(1, 0, 0, false, 3, 22);
            x.market(2, 0, 0, true, 3);
            int kept = Math.min(count, 150);
            Check.due("trades", x.trades(), count);
            Check.due("the last one", x.tradePrice(0) * 100 + x.tradeQuantity(0) * 10 + x.sellerOf(0), 2231);
            Check.due("the one before", x.tradePrice(1) * 100 + x.tradeQuantity(1) * 10 + x.sellerOf(1), 2010);
            int oldest = x.tradePrice(kept - 1) * 100 + x.tradeQuantity(kept - 1) * 10 + x.sellerOf(kept - 1);
            Check.due("the oldest of " + count, oldest, count > 150 ? 2010 : 1921);
            Check.due("the buyer", x.buyerOf(kept - 1), 2);
            Check.noIndex("price behind it", () -> x.tradePrice(kept));
            Check.noIndex("quantity behind it", () -> x.tradeQuantity(kept));
            Check.noIndex("buyer behind it", () -> x.buyerOf(kept));
            Check.noIndex("seller behind it", () -> x.sellerOf(kept));
            double values = count > 150 ? 149 * 20 + 3 * 22 : 2 * 19 + (count - 2) * 20 + 3 * 22;
            double quantities = count > 150 ? 149 + 3 : 2 + count - 2 + 3;
            Check.due("mean", x.meanPrice(), values / quantities);
            Check.due("sound", x.isSound(), true);
        }
    }

    // "'d' it was traded whole, 'x' it was cancelled"; "the share of orders that were traded whole".
    private static void tradedWhole() {
        Markethall x = hall();
        x.limit(0, 0, 0, false, 5, 20);
        Check.due("none of 1", x.filledShare(), 0f);
        x.market(2, 0, 0, true, 4);
        Check.due("left", x.leftOf(0), 1);
        Check.due("4 of 5", x.stateOf(0), 'o');
        Check.due("1 of 2", x.filledShare(), 0.5f);
        x.market(2, 0, 0, true, 1);
        Check.due("5 of 5", x.stateOf(0), 'd');
        Check.due("3 of 3", x.filledShare(), 1f);
        x.limit(0, 0, 0, false, 5, 20);
        x.market(2, 0, 0, true, 4);
        x.cancel(3);
        Check.due("traded in part, then cancelled", x.stateOf(3), 'x');
        Check.due("left", x.leftOf(3), 0);
        Check.due("4 of 5", x.filledShare(), 4f / 5f);
        x.limit(0, 0, 0, false, 5, 20);
        x.market(2, 0, 0, true, 6);
        Check.due("5 of 6, the rest cancelled", x.stateOf(6), 'x');
        Check.due("5 of 7, as floats", x.filledShare(), 5f / 7f);
    }

    // "An auction is opened in any phase."
    private static void auctionInAnyPhase() {
        Markethall x = hall(20, 10);
        Check.due("in c", x.openAuction(0), 'c');
        Check.due("in a", x.openAuction(0), 'a');
        Check.due("phase", x.phaseOf(0), 'a');
        Check.due("the other stock", x.phaseOf(1), 'c');
        x.uncross(0);
        Check.noOperation("uncross in c", () -> x.uncross(0));
        x.limit(0, 0, 0, false, 1, 30);
        x.market(2, 0, 0, true, 1);
        Check.noOperation("uncross in h", () -> x.uncross(0));
        Check.due("in h", x.openAuction(0), 'h');
        Check.due("uncross in a", x.uncross(0), 0);
        Check.due("phase", x.phaseOf(0), 'c');
    }

    // "If nothing can be traded, there is no trade."
    private static void nothingCanBeTraded() {
        for (int sell = 20; sell <= 21; sell++) {
            Markethall x = hall();
            x.openAuction(0);
            x.limit(2, 0, 0, true, 5, 20);
            x.limit(0, 0, 0, false, 5, sell);
            Check.due("20 and " + sell, x.uncross(0), sell == 20 ? 5 : 0);
            Check.due("trades", x.trades(), sell == 20 ? 1 : 0);
            Check.due("left", x.leftOf(0), sell == 20 ? 0 : 5);
        }
        Markethall x = hall();
        x.openAuction(0);
        Check.due("no order", x.uncross(0), 0);
        x.openAuction(0);
        x.limit(2, 0, 0, true, 5, 50);
        x.peg(0, 0, 0, false, 5, 0);
        x.stop(0, 0, 0, false, 5, 50);
        Check.due("pegs and stops do not count, nor one side alone", x.uncross(0), 0);
        Check.due("the last price stays", x.lastPrice(0), 20);
    }

    // "the one at which most can be traded is found".
    private static void mostCanBeTraded() {
        Markethall x = hall();
        x.openAuction(0);
        x.limit(2, 0, 0, true, 10, 30);
        x.limit(2, 0, 0, true, 1, 25);
        x.limit(0, 0, 0, false, 10, 20);
        x.limit(1, 0, 0, false, 1, 25);
        Check.due("11 at 25, though 10 at 20 is nearer and 10 at 30 as well", x.uncross(0), 11);
        Check.due("25", x.lastPrice(0), 25);
        Markethall y = hall();
        y.openAuction(0);
        y.limit(2, 0, 0, true, 10, 30);
        y.limit(2, 0, 0, true, 1, 24);
        y.limit(0, 0, 0, false, 10, 20);
        y.limit(1, 0, 0, false, 1, 25);
        Check.due("10 at each", y.uncross(0), 10);
        Check.due("with a difference of 1 at each, 20 is the nearest", y.lastPrice(0), 20);
        Markethall z = hall(30, 100);
        z.openAuction(0);
        z.limit(2, 0, 0, true, 4, 20);
        z.limit(2, 0, 1, true, 4, 20);
        z.limit(0, 0, 0, false, 5, 20);
        z.limit(0, 0, 1, false, 3, 20);
        z.limit(2, 0, 0, true, 5, 30);
        Check.due("8 of 13 and 8, though 30 has 5 of 5 and 8 and is nearer", z.uncross(0), 8);
        Check.due("20", z.lastPrice(0), 20);
    }

    // "of several the one with the least difference of what could be bought and sold, then the one nearest to the last
    // price, then the lower one".
    private static void auctionTies() {
        Check.due("difference 0 at 30, 1 at 21", priceOfTwo(20, 30, 21, 1), 30);
        Check.due("difference 0 at both: nearest", priceOfTwo(20, 30, 21, 0), 21);
        Check.due("nearest above", priceOfTwo(27, 30, 21, 0), 30);
        Check.due("nearest below", priceOfTwo(24, 30, 21, 0), 21);
        Check.due("as near: the lower one", priceOfTwo(25, 29, 21, 0), 21);
        Check.due("1 nearer to the higher one", priceOfTwo(26, 30, 21, 0), 30);
        Check.due("the difference ahead of the nearest", priceOfTwo(21, 30, 21, 1), 30);
        Check.due("equal prices", priceOfTwo(20, 25, 25, 0), 25);
        Check.due("the least price", priceOfTwo(20, 1, 1, 0), 1);
        Check.due("the greatest price", priceOfTwo(20, 9999, 9999, 0), 9999);
        Check.due("the least and the greatest", priceOfTwo(5000, 9999, 1, 0), 1);
        Check.due("the greatest is nearer", priceOfTwo(5001, 9999, 1, 0), 9999);
    }

    // Ten to buy at the one price, ten to sell at the other, and some more to buy there.
    private static int priceOfTwo(int last, int buy, int sell, int more) {
        Markethall x = hall(last, 1);
        x.openAuction(0);
        x.limit(2, 0, 0, true, 10, buy);
        x.limit(0, 0, 1, false, 10, sell);
        if (more > 0) {
            x.limit(2, 0, 1, true, more, sell);
        }
        Check.due("traded", x.uncross(0), 10);
        return x.tradePrice(0);
    }

    // "those to buy at it or above, by the best price and then the earliest turn, trade with those to sell, likewise".
    private static void auctionByPriceAndTurn() {
        Markethall x = hall();
        x.openAuction(0);
        x.limit(2, 0, 0, true, 3, 20);
        x.limit(2, 0, 1, true, 3, 20);
        x.limit(1, 0, 1, true, 3, 21);
        x.limit(0, 0, 0, false, 7, 20);
        x.limit(2, 0, 0, true, 3, 19);
        Check.due("traded", x.uncross(0), 7);
        Check.due("the best price first", x.buyerOf(2), 1);
        Check.due("then the earliest turn", x.leftOf(0), 0);
        Check.due("then the later one", x.leftOf(1), 2);
        Check.due("1 of it", x.tradeQuantity(0), 1);
        Check.due("not one below the price", x.leftOf(4), 3);
        Markethall y = hall();
        y.openAuction(0);
        y.limit(0, 0, 1, false, 3, 20);
        y.limit(1, 0, 0, false, 3, 20);
        y.limit(1, 0, 0, false, 3, 19);
        y.limit(2, 0, 0, true, 7, 20);
        y.limit(1, 0, 0, false, 3, 21);
        Check.due("traded", y.uncross(0), 7);
        Check.due("the best price first", y.leftOf(2), 0);
        Check.due("then the earliest turn", y.leftOf(0), 0);
        Check.due("then the later one", y.leftOf(1), 2);
        Check.due("not one above the price", y.leftOf(4), 3);
    }

    // "what an iceberg that traded shows is its peak, or what is left, then, its turn staying".
    private static void auctionIcebergs() {
        for (int traded = 1; traded <= 10; traded++) {
            Markethall x = hall();
            x.iceberg(0, 0, 0, false, 10, 20, 4);
            x.limit(1, 0, 0, false, 10, 20);
            x.openAuction(0);
            x.limit(2, 0, 0, true, traded, 20);
            Check.due("traded", x.uncross(0), traded);
            Check.due("one trade", x.trades(), 1);
            Check.due("left", x.leftOf(0), 10 - traded);
            Check.due("shown behind " + traded, x.shown(0, false, 20), 10 + Math.min(4, 10 - traded));
            x.market(2, 0, 0, true, 1);
            Check.due("its turn behind " + traded, x.sellerOf(0), traded < 10 ? 0 : 1);
            Markethall y = hall();
            y.iceberg(2, 0, 0, true, 10, 20, 4);
            y.limit(1, 0, 0, true, 10, 20);
            y.openAuction(0);
            y.limit(0, 0, 0, false, traded, 20);
            Check.due("traded", y.uncross(0), traded);
            Check.due("shown to buy behind " + traded, y.shown(0, true, 20), 10 + Math.min(4, 10 - traded));
            y.market(0, 0, 0, false, 1);
            Check.due("its turn to buy behind " + traded, y.buyerOf(0), traded < 10 ? 2 : 1);
        }
    }

    // "two of one trader, too, with an alarm 'w'": for each such trade.
    private static void auctionOfOne() {
        Markethall x = hall();
        x.openAuction(0);
        x.limit(0, 0, 0, true, 4, 20);
        x.limit(0, 0, 1, false, 1, 20);
        x.limit(1, 0, 0, false, 1, 20);
        x.limit(0, 0, 0, false, 2, 20);
        Check.due("no alarm as they come", x.alarms('w'), 0);
        Check.due("traded", x.uncross(0), 4);
        Check.due("two of three", x.alarms('w'), 2);
        Check.due("trades", x.trades(), 3);
        Check.due("of one trader", x.buyerOf(0) + x.sellerOf(0) + x.buyerOf(2) + x.sellerOf(2), 0);
        Check.due("of two traders", x.sellerOf(1), 1);
        Check.due("cash", x.cashOf(0), 1000000L - 20);
        Check.due("owed", x.owed(0, 0), 1);
    }

    // "'s': a trader who by cancel() cancels a 5th order of a day, or a later one ...; once a day, as it is called."
    private static void fifthCancel() {
        Markethall x = hall();
        for (int i = 0; i < 20; i++) {
            x.limit(2, i % 2, i % 2, true, 1, 5);
        }
        for (int i = 0; i < 7; i++) {
            x.cancel(i);
            Check.due("behind cancel " + (i + 1), x.alarms('s'), i < 4 ? 0 : 1);
        }
        x.endDay();
        Check.due("the end of a day brings none", x.alarms('s'), 1);
        for (int i = 7; i < 11; i++) {
            x.cancel(i);
        }
        Check.due("4 of the next day", x.alarms('s'), 1);
        Check.noOperation("one that throws is none", () -> x.cancel(10));
        Check.noIndex("one that throws is none", () -> x.cancel(20));
        Check.due("4 still", x.alarms('s'), 1);
        x.cancel(11);
        Check.due("5", x.alarms('s'), 2);
        x.endDay();
        for (int i = 12; i < 16; i++) {
            x.cancel(i);
        }
        Check.due("4 by cancel()", x.kill(2), 4);
        Check.due("and 4 by kill()", x.alarms('s'), 2);
        Check.due("no alarm w", x.alarms('w'), 0);

        Markethall y = hall();
        for (int i = 0; i < 10; i++) {
            y.limit(1 + i % 2, 0, 0, true, 1, 5);
        }
        for (int i = 0; i < 9; i++) {
            y.cancel(i);
        }
        Check.due("5 of one and 4 of another", y.alarms('s'), 1);
        y.cancel(9);
        Check.due("5 of both", y.alarms('s'), 2);
        Markethall z = hall();
        z.limit(2, 0, 0, false, 1, 5);
        for (int i = 0; i < 4; i++) {
            z.cancel(z.stop(2, 0, 0, true, 1, 500));
        }
        z.market(2, 0, 0, true, 5);
        Check.due("what the market cancels is none", z.alarms('s'), 0);
        z.cancel(z.peg(2, 0, 0, true, 1, 5));
        Check.due("5 of any kind", z.alarms('s'), 1);
        // Each trader, on each day: 4 bring none, 5 bring one.
        for (int trader = 0; trader < 3; trader++) {
            Markethall w = hall();
            for (int day = 0; day < 3; day++) {
                for (int i = 0; i < 4; i++) {
                    w.cancel(w.limit(trader, 0, 0, true, 1, 5));
                }
                Check.due("4 of trader " + trader, w.alarms('s'), day);
                w.cancel(w.limit(trader, 0, 0, true, 1, 5));
                Check.due("5 of trader " + trader, w.alarms('s'), day + 1);
                w.endDay();
            }
        }
    }

    // "and has not traded in it so far".
    private static void fifthCancelOfWhoTraded() {
        for (int before = 0; before <= 5; before++) {
            Markethall x = hall();
            x.limit(0, 0, 0, false, 2, 20);
            for (int i = 0; i < 7; i++) {
                x.limit(2, 0, 0, true, 1, 5);
            }
            for (int i = 0; i < 6; i++) {
                if (i == before) {
                    x.market(2, 0, 0, true, 1);
                }
                x.cancel(1 + i);
            }
            Check.due("traded behind " + before, x.alarms('s'), before < 5 ? 0 : 1);
        }
        Markethall y = hall();
        y.limit(2, 0, 0, true, 1, 20);
        for (int i = 0; i < 5; i++) {
            y.limit(2, 0, 0, true, 1, 5);
        }
        y.market(0, 0, 0, false, 1);
        for (int i = 0; i < 5; i++) {
            y.cancel(1 + i);
        }
        Check.due("one whose order rested has traded, too", y.alarms('s'), 0);
        Markethall z = hall();
        z.openAuction(0);
        z.limit(2, 0, 0, true, 1, 20);
        z.limit(0, 0, 0, false, 1, 20);
        for (int i = 0; i < 5; i++) {
            z.limit(2, 1, 0, true, 1, 5);
        }
        z.uncross(0);
        for (int i = 0; i < 5; i++) {
            z.cancel(2 + i);
        }
        Check.due("so has one who traded in an auction", z.alarms('s'), 0);
        z.endDay();
        for (int i = 0; i < 5; i++) {
            z.cancel(z.limit(2, 1, 0, true, 1, 5));
        }
        Check.due("the next day anew", z.alarms('s'), 1);
    }
}
