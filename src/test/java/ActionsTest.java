/** Promises 23 and 24, and 45 to 47. */
public final class ActionsTest {
    private static Markethall hall() {
        Markethall x = new Markethall();
        x.addStock(20, 50, 10, 100);
        x.addStock(21, 50, 10, 100);
        x.addTrader(1000);
        x.addTrader(1000);
        x.issue(0, 0, 50);
        return x;
    }

    public static void main(String[] args) {
        wrongSplits();
        splitOfShares();
        splitOfOrders();
        splitOfPrices();
        splitOfHouse();
        dividends();
        asked();
        Check.end();
    }

    private static void wrongSplits() {
        Markethall x = hall();
        Check.noIndex("-1", () -> x.split(-1, 2));
        Check.noIndex("2, before the range", () -> x.split(2, 1));
        Check.noArgument("by 1", () -> x.split(0, 1));
        Check.noArgument("by 6", () -> x.split(0, 6));
        Check.due("nothing changed", x.lastPrice(0), 20);
        Check.due("by 2", x.split(0, 2), 10);
        Check.noOperation("twice", () -> x.split(0, 2));
        Check.noArgument("range first", () -> x.split(0, 6));
        Check.due("the other stock, by 5", x.split(1, 5), 4);
        Check.due("last price", x.lastPrice(1), 4);
        Check.noIndex("-1", () -> x.lastPrice(-1));
        Check.noIndex("2", () -> x.lastPrice(2));
    }

    private static void splitOfShares() {
        Markethall x = hall();
        x.limit(0, 0, 0, false, 7, 20);
        x.market(1, 0, 0, true, 7);
        x.locate(1, 0, 30);
        x.endDay();
        x.issue(0, 1, 9);
        x.split(0, 3);
        Check.due("position", x.position(0, 0), 129);
        Check.due("position", x.position(1, 0), 21);
        Check.due("settled", x.settled(0, 0), 150);
        Check.due("owed", x.owed(1, 0), 21);
        Check.due("owed", x.owed(0, 0), -21);
        Check.due("pool", x.locate(0, 0, 1), 209);
        Check.due("located: 90 and 21", x.limit(1, 0, 0, false, 111, 20), 2);
        Check.due("not 112", x.limit(1, 0, 0, false, 1, 20), -1);
        Check.due("the other stock stays", x.position(0, 1), 9);
        Check.due("cash stays", x.cashOf(1), 860L);
        Check.due("isSound", x.isSound(), true);
        x.endDay();
        x.endDay();
        Check.due("settled", x.settled(1, 0), 21);
        Check.due("settled", x.settled(0, 0), 129);
    }

    private static void splitOfOrders() {
        Markethall x = hall();
        x.iceberg(0, 0, 0, false, 10, 25, 4);
        x.limit(1, 0, 0, true, 3, 11);
        x.peg(1, 0, 0, true, 3, 5);
        x.peg(1, 0, 0, true, 3, 1);
        x.stop(1, 0, 0, true, 3, 31);
        x.limit(1, 0, 0, true, 3, 1);
        x.limit(1, 1, 0, true, 3, 11);
        x.openAuction(0);
        x.limit(1, 0, 0, true, 1, 25);
        x.uncross(0);
        x.market(1, 0, 0, true, 1);
        Check.due("shown", x.shown(0, false, 25), 3);
        x.split(0, 2);
        Check.due("left", x.leftOf(0), 16);
        Check.due("shown", x.shown(0, false, 12), 6);
        Check.due("price", x.priceOf(0), 12);
        Check.due("price", x.priceOf(1), 5);
        Check.due("offset 2", x.priceOf(2), 3);
        Check.due("offset 0", x.priceOf(3), 5);
        Check.due("price at least 1", x.priceOf(5), 1);
        Check.due("other stock", x.priceOf(6), 11);
        Check.due("left of a stop", x.leftOf(4), 6);
        Check.due("left of what is over", x.leftOf(7), 0);
        x.market(1, 0, 0, true, 6);
        Check.due("the peak is 8", x.shown(0, false, 12), 8);
        x.limit(1, 0, 0, true, 11, 15);
        Check.due("last price", x.lastPrice(0), 12);
        x.openAuction(0);
        x.limit(0, 0, 0, false, 1, 15);
        x.uncross(0);
        Check.due("the trigger is 15", x.stateOf(4), 'x');
    }

    private static void splitOfPrices() {
        Markethall x = hall();
        x.addStock(3, 50, 50, 0);
        Check.due("at least 1", x.split(2, 5), 1);
        x.issue(0, 2, 5);
        x.limit(0, 2, 0, false, 5, 2);
        x.market(1, 2, 0, true, 5);
        Check.due("the reference is 1, too", x.phaseOf(2), 'h');
        x.split(0, 3);
        x.limit(0, 0, 0, false, 5, 7);
        x.market(1, 0, 0, true, 1);
        Check.due("the reference is 6", x.phaseOf(0), 'h');
    }

    private static void splitOfHouse() {
        Markethall x = new Markethall();
        x.addStock(10, 100, 100, 50);
        x.addTrader(0);
        x.addTrader(1000);
        x.locate(0, 0, 10);
        x.limit(0, 0, 0, false, 10, 10);
        x.market(1, 0, 0, true, 10);
        x.endDay();
        x.endDay();
        Check.due("house", x.houseOf(0), -10);
        x.split(0, 2);
        Check.due("house", x.houseOf(0), -20);
        Check.due("isSound", x.isSound(), true);
        Check.due("what is paid less what is taken", x.dividend(0, 3), 0L);
        Check.due("the house pays", x.fund(), -60L);
        Check.due("the trader gets", x.cashOf(1), 960L);
        Check.noIndex("-1", () -> x.houseOf(-1));
        Check.noIndex("1", () -> x.houseOf(1));
    }

    private static void dividends() {
        Markethall x = hall();
        x.issue(1, 1, 5);
        Check.noIndex("-1", () -> x.dividend(-1, 5));
        Check.noIndex("2, before the range", () -> x.dividend(2, 0));
        Check.noArgument("0", () -> x.dividend(0, 0));
        Check.noArgument("100", () -> x.dividend(0, 100));
        Check.due("least", x.dividend(0, 1), 50L);
        Check.due("most", x.dividend(0, 99), 4950L);
        Check.due("cash", x.cashOf(0), 6000L);
        Check.due("no share, no dividend", x.cashOf(1), 1000L);
        x.locate(1, 0, 10);
        x.limit(1, 0, 0, false, 10, 20);
        x.market(0, 0, 0, true, 10);
        Check.due("60 less 10", x.dividend(0, 2), 100L);
        Check.due("taken", x.cashOf(1), 1200L - 20);
        Check.due("paid", x.cashOf(0), 5800L + 120);
        x.kill(1);
        x.dividend(0, 1);
        Check.due("who is out, too", x.cashOf(1), 1170L);
        Check.due("fund", x.fund(), 0L);
    }

    private static void asked() {
        Markethall x = hall();
        Check.noElement("no orders", () -> x.filledShare());
        Check.noElement("no trades", () -> x.meanPrice());
        x.limit(1, 0, 0, true, 3, 20);
        Check.due("none of one", x.filledShare(), 0.0f);
        x.limit(0, 0, 0, false, 2, 20);
        Check.due("one of two", x.filledShare(), 0.5f);
        x.limit(0, 0, 0, false, 3, 19);
        Check.due("two of three", x.filledShare(), 2.0f / 3.0f);
        Check.due("mean", x.meanPrice(), 20.0);
        x.market(1, 0, 0, true, 1);
        Check.due("mean", x.meanPrice(), (3.0 * 20 + 19) / 4.0);
        x.market(1, 0, 0, true, 10);
        Check.due("what is traded in part only does not count", x.filledShare(), 4.0f / 5.0f);
        Check.due("refused ones do not count", x.market(1, 0, 0, false, 100), -1);
        Check.due("as before", x.filledShare(), 4.0f / 5.0f);
        Check.due("isSound", x.isSound(), true);
        Check.due("isSound again", x.isSound(), true);
        x.endDay();
        Check.due("isSound behind more", x.isSound(), true);
    }
}
