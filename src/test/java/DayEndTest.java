/** Promises 21 and 22 with what they change: settlement, fails, buying in, margin and default. */
public final class DayEndTest {
    public static void main(String[] args) {
        settlement();
        failsByNumbers();
        locatedShares();
        agesOfFails();
        agesStartAnew();
        agesOfThoseWhoAreGone();
        splitOfFails();
        buyIn();
        buyInDifference();
        calledAndNot();
        defaultWithCash();
        defaultOnFund();
        defaultOnOthers();
        defaultAlone();
        obligationsOfOthers();
        killedTraders();
        needAndEquity();
        Check.end();
    }

    private static Markethall hall(int price, int rate, int... cash) {
        Markethall x = new Markethall();
        x.addStock(price, rate, 100, 9999);
        for (int each : cash) {
            x.addTrader(each);
        }
        return x;
    }

    // The first sells to the second.
    private static void deal(Markethall x, int seller, int buyer, int quantity, int price) {
        x.limit(seller, 0, 0, false, quantity, price);
        x.market(buyer, 0, 0, true, quantity);
    }

    private static void endDays(Markethall x, int count) {
        for (int i = 0; i < count; i++) {
            x.endDay();
        }
    }

    private static void settlement() {
        Markethall x = hall(10, 0, 1000, 1000);
        x.issue(0, 0, 50);
        deal(x, 0, 1, 20, 10);
        Check.due("position at once", x.position(1, 0), 20);
        Check.due("settled later", x.settled(1, 0), 0);
        Check.due("owed", x.owed(1, 0), 20);
        Check.due("owed", x.owed(0, 0), -20);
        x.endDay();
        deal(x, 1, 0, 5, 10);
        Check.due("owed", x.owed(1, 0), 15);
        x.endDay();
        Check.due("not yet", x.settled(0, 0), 50);
        Check.due("day", x.day(), 2);
        x.endDay();
        Check.due("delivered", x.settled(0, 0), 30);
        Check.due("got", x.settled(1, 0), 20);
        Check.due("the later trade", x.owed(1, 0), -5);
        x.endDay();
        Check.due("delivered", x.settled(1, 0), 15);
        Check.due("got", x.settled(0, 0), 35);
        Check.due("none", x.owed(0, 0), 0);
        Check.due("fails", x.fails(), 0);
        Check.due("isSound", x.isSound(), true);
        Check.noIndex("trader", () -> x.settled(2, 0));
        Check.noIndex("trader", () -> x.owed(-1, 0));
        Check.noIndex("trader", () -> x.position(2, 0));
        Check.noIndex("stock", () -> x.settled(0, 1));
        Check.noIndex("stock", () -> x.owed(0, -1));
        Check.noIndex("stock", () -> x.position(0, 1));
    }

    // 1 sells to 0 and to 3 what it has only in part: 0 gets first.
    private static void failsByNumbers() {
        Markethall x = hall(10, 0, 1000, 1000, 1000, 1000);
        x.issue(2, 0, 30);
        deal(x, 2, 1, 30, 10);
        deal(x, 1, 0, 10, 10);
        deal(x, 1, 3, 15, 10);
        deal(x, 2, 3, 0 + 1, 10);
        Check.due("nets are of all trades of the day", x.owed(1, 0), 5);
        x.endDay();
        x.locate(1, 0, 1);
        endDays(x, 2);
        Check.due("0 gets all", x.settled(0, 0), 10);
        Check.due("1 gets all", x.settled(1, 0), 5);
        Check.due("3 gets the rest", x.settled(3, 0), 15);
        Check.due("fails", x.fails(), 0);

        Markethall y = hall(10, 0, 1000, 1000, 1000, 1000);
        y.locate(1, 0, 20);
        deal(y, 1, 0, 8, 10);
        y.issue(2, 0, 9);
        deal(y, 2, 3, 9, 10);
        y.endDay();
        deal(y, 3, 0, 9, 10);
        endDays(y, 2);
        Check.due("located shares deliver", y.settled(1, 0), -8);
        Check.due("0 got", y.settled(0, 0), 8);
        Check.due("3 got", y.settled(3, 0), 9);
        endDays(y, 1);
        Check.due("3 delivered", y.settled(3, 0), 0);
        Check.due("0 got", y.settled(0, 0), 17);
    }

    private static void locatedShares() {
        Markethall x = hall(10, 0, 1000, 1000, 1000);
        x.locate(0, 0, 10);
        deal(x, 0, 1, 10, 10);
        deal(x, 0, 2, 6, 10);
        Check.due("sold 16", x.position(0, 0), -16);
        endDays(x, 3);
        Check.due("10 were delivered", x.settled(0, 0), -10);
        Check.due("the lower number first", x.settled(1, 0), 10);
        Check.due("nothing is left for the other", x.settled(2, 0), 0);
        Check.due("what lacks is owed still", x.owed(0, 0), -6);
        Check.due("and is to be got still", x.owed(2, 0), 6);
        Check.due("fails", x.fails(), 6);
        x.locate(0, 0, 2);
        endDays(x, 1);
        Check.due("2 more", x.settled(0, 0), -12);
        Check.due("2 more", x.settled(2, 0), 2);
        Check.due("4 lacked again", x.fails(), 10);
        x.issue(0, 0, 20);
        endDays(x, 1);
        Check.due("all", x.settled(0, 0), 4);
        Check.due("all", x.settled(2, 0), 6);
        Check.due("no fail more", x.fails(), 10);
        Check.due("nothing is owed", x.owed(0, 0), 0);
    }

    // What a later trade lacks is as old as the oldest that is due with it.
    private static void agesOfFails() {
        Markethall x = hall(10, 0, 1000, 1000, 1000);
        x.locate(0, 0, 5);
        deal(x, 0, 1, 5, 10);
        deal(x, 0, 1, 5, 10);
        x.endDay();
        deal(x, 0, 2, 5, 10);
        x.endDay();
        Check.due("nothing yet", x.fails(), 0);
        x.endDay();
        Check.due("5 of 10 lack", x.fails(), 5);
        x.endDay();
        Check.due("5 and 5 lack, 2 days old both", x.fails(), 15);
        Check.due("owed", x.owed(0, 0), -10);
        x.endDay();
        Check.due("bought in", x.owed(0, 0), 0);
        Check.due("those of the later trade, too", x.owed(2, 0), 0);
        Check.due("they lacked once more", x.fails(), 25);
        Check.due("position", x.position(0, 0), -5);
        Check.due("position", x.position(1, 0), 5);
        Check.due("position", x.position(2, 0), 0);
        Check.due("cash", x.cashOf(2), 1000L - 50 + 55);
        Check.due("cash", x.cashOf(0), 1000L + 150 - 110);
        Check.due("isSound", x.isSound(), true);
    }

    private static void agesStartAnew() {
        Markethall x = hall(10, 0, 1000, 1000);
        x.locate(0, 0, 5);
        deal(x, 0, 1, 5, 10);
        deal(x, 0, 1, 3, 10);
        endDays(x, 3);
        Check.due("3 lack", x.fails(), 3);
        x.locate(0, 0, 3);
        x.endDay();
        Check.due("settled late", x.owed(1, 0), 0);
        Check.due("settled late", x.settled(1, 0), 8);
        deal(x, 0, 1, 4, 10);
        endDays(x, 4);
        Check.due("these are 2 days old", x.owed(1, 0), 4);
        Check.due("3, 4 and 4", x.fails(), 11);
        x.endDay();
        Check.due("bought in", x.owed(1, 0), 0);
    }

    // 0 and 1 default while what they lack is 2 days old; what 2 lacks the day behind is of a trade.
    private static void agesOfThoseWhoAreGone() {
        Markethall x = hall(10, 100, 100, 100, 1000, 1000, 1000);
        x.addStock(10, 100, 100, 0);
        x.issue(4, 1, 100);
        x.locate(0, 0, 5);
        x.locate(2, 0, 3);
        deal(x, 0, 1, 5, 10);
        deal(x, 0, 1, 5, 10);
        endDays(x, 2);
        x.limit(4, 1, 0, false, 40, 10);
        x.market(0, 1, 0, true, 20);
        x.market(1, 1, 0, true, 20);
        deal(x, 2, 3, 3, 10);
        deal(x, 2, 3, 3, 10);
        Check.due("two are called", x.endDay(), 2);
        Check.due("two default", x.endDay(), 2);
        Check.due("they are out", x.isOut(0) && x.isOut(1), true);
        Check.due("lacked", x.fails(), 10);
        x.endDay();
        Check.due("3 of the trade lack", x.fails(), 13);
        Check.due("1 day old", x.owed(3, 0), 3);
        x.endDay();
        Check.due("2 days old", x.owed(3, 0), 3);
        x.endDay();
        Check.due("bought in", x.owed(3, 0), 0);
        Check.due("isSound", x.isSound(), true);
    }

    private static void splitOfFails() {
        Markethall x = hall(10, 0, 1000, 1000);
        x.locate(0, 0, 5);
        deal(x, 0, 1, 5, 10);
        deal(x, 0, 1, 3, 10);
        endDays(x, 3);
        Check.due("3 lack", x.owed(0, 0), -3);
        x.split(0, 2);
        Check.due("6 lack", x.owed(0, 0), -6);
        Check.due("6 are to be got", x.owed(1, 0), 6);
        x.locate(0, 0, 5);
        x.endDay();
        Check.due("5 more", x.settled(1, 0), 15);
        Check.due("1 lacks", x.fails(), 4);
        x.endDay();
        Check.due("bought in at 5", x.cashOf(1), 1000L - 80 + 5);
        Check.due("position", x.position(0, 0), -15);
    }

    private static void buyIn() {
        Markethall x = hall(19, 0, 1000, 1000);
        x.locate(0, 0, 5);
        deal(x, 0, 1, 5, 19);
        deal(x, 0, 1, 5, 19);
        endDays(x, 4);
        Check.due("2 days old", x.owed(1, 0), 5);
        Check.due("position", x.position(0, 0), -10);
        x.endDay();
        Check.due("11 tenths of 19 are 20", x.cashOf(0), 1000L + 190 - 100);
        Check.due("got", x.cashOf(1), 1000L - 190 + 100);
        Check.due("position", x.position(0, 0), -5);
        Check.due("position", x.position(1, 0), 5);
        Check.due("settled stays", x.settled(0, 0), -5);
        Check.due("settled stays", x.settled(1, 0), 5);
        Check.due("owed", x.owed(1, 0), 0);
        Check.due("house", x.houseOf(0), 0);
        Check.due("fund", x.fund(), 0L);
        Check.due("no trade", x.trades(), 2);
        Check.due("last price", x.lastPrice(0), 19);
        Check.due("fails: 5, each of 3 times", x.fails(), 15);
    }

    // Of 1, who lacks, the house takes over what nobody is to deliver.
    private static void buyInDifference() {
        Markethall x = hall(10, 100, 50, 10, 1000);
        x.addStock(50, 0, 100, 100);
        x.locate(1, 0, 10);
        deal(x, 1, 2, 10, 10);
        endDays(x, 2);
        Check.due("out", x.isOut(1), true);
        Check.due("obligations are gone", x.owed(1, 0), 0);
        Check.due("those of others stay", x.owed(2, 0), 10);
        Check.due("house", x.houseOf(0), -10);
        Check.due("fund", x.fund(), 10L);
        endDays(x, 3);
        Check.due("nobody lacked to deliver", x.fails(), 0);
        Check.due("bought in from the house", x.fund(), -100L);
        Check.due("house", x.houseOf(0), 0);
        Check.due("cash", x.cashOf(2), 1010L);
        Check.due("position", x.position(2, 0), 0);
        Check.due("isSound", x.isSound(), true);

        Markethall y = hall(10, 100, 1000, 50, 1000);
        y.locate(0, 0, 10);
        deal(y, 0, 1, 10, 10);
        Check.due("called", y.endDay(), 1);
        Check.due("the buyer defaults", y.endDay(), 1);
        Check.due("house", y.houseOf(0), 10);
        endDays(y, 1);
        Check.due("what is delivered goes to nobody", y.settled(0, 0), -10);
        Check.due("fund", y.fund(), 50L);
        Check.due("owed", y.owed(0, 0), 0);
    }

    private static void calledAndNot() {
        Markethall x = hall(10, 100, 20, 1000);
        x.locate(0, 0, 10);
        deal(x, 0, 1, 9, 10);
        Check.due("equity", x.equity(0), 20L);
        Check.due("need", x.need(0), 90L);
        Check.due("isCalled before", x.isCalled(0), false);
        Check.due("one is called", x.endDay(), 1);
        Check.due("isCalled", x.isCalled(0), true);
        Check.due("isCalled", x.isCalled(1), false);
        Check.due("isOut", x.isOut(0), false);
        x.limit(1, 0, 0, false, 7, 10);
        x.market(0, 0, 0, true, 7);
        Check.due("equity is as much as the need", x.equity(0) - x.need(0), 0L);
        Check.due("none", x.endDay(), 0);
        Check.due("isCalled", x.isCalled(0), false);
        deal(x, 0, 1, 1, 10);
        Check.due("called anew", x.endDay(), 1);
        Check.due("isCalled", x.isCalled(0), true);
        Check.due("defaults", x.endDay(), 1);
        Check.due("isCalled", x.isCalled(0), false);
        Check.due("isOut", x.isOut(0), true);
        Check.due("none any more", x.endDay(), 0);
        Check.noIndex("-1", () -> x.isCalled(-1));
        Check.noIndex("2", () -> x.isCalled(2));
        Check.noIndex("-1", () -> x.isOut(-1));
        Check.noIndex("2", () -> x.isOut(2));
    }

    private static void defaultWithCash() {
        Markethall x = hall(10, 100, 30, 1000);
        x.locate(0, 0, 30);
        deal(x, 0, 1, 10, 10);
        x.stop(0, 0, 0, true, 3, 50);
        x.limit(0, 0, 0, false, 3, 50);
        x.limit(1, 0, 0, false, 3, 50);
        x.endDay();
        x.endDay();
        Check.due("orders are cancelled", x.stateOf(2), 'x');
        Check.due("orders are cancelled", x.stateOf(3), 'x');
        Check.due("not those of others", x.stateOf(4), 'o');
        Check.due("no cash", x.cashOf(0), 0L);
        Check.due("what was above 0 goes to the fund", x.fund(), 30L);
        Check.due("position", x.position(0, 0), 0);
        Check.due("house", x.houseOf(0), -10);
        Check.due("equity", x.equity(0), 0L);
        Check.due("need", x.need(0), 0L);
        Check.due("refused", x.limit(0, 0, 0, true, 1, 1), -1);
        Check.due("k", x.refused(), 'k');
        Check.noOperation("out", () -> x.kill(0));
        Check.noOperation("the pool has not got back what was located", () -> x.locate(1, 0, 9970));
        Check.due("the pool", x.locate(1, 0, 9969), 0);
    }

    // 0 is short of 10 at 10; then 2 pays 20 for one.
    private static Markethall loser(int fund, int... cash) {
        Markethall x = hall(10, 100, cash);
        if (fund > 0) {
            x.endow(fund);
        }
        x.issue(1, 0, 100);
        x.locate(0, 0, 10);
        deal(x, 0, 1, 10, 10);
        deal(x, 1, 2, 1, 20);
        return x;
    }

    private static void defaultOnFund() {
        Markethall x = loser(150, 5, 5000, 5000);
        Check.due("equity", x.equity(0), -95L);
        Check.due("called", x.endDay(), 1);
        Check.due("defaults", x.endDay(), 1);
        Check.due("the fund pays", x.fund(), 55L);
        Check.due("nobody else", x.cashOf(1), 5000L - 100 + 20);
        Check.due("no cash", x.cashOf(0), 0L);
        Check.due("house", x.houseOf(0), -10);
        Check.due("isSound", x.isSound(), true);
    }

    private static void defaultOnOthers() {
        Markethall x = loser(15, 4, 5000, 5000, 700, 800, 900);
        x.kill(3);
        x.endDay();
        x.endDay();
        Check.due("the fund, as far as it goes", x.fund(), 0L);
        // 96 - 15 = 81 by four: 20, and 1 of the lowest.
        Check.due("1", x.cashOf(1), 5000L - 100 + 20 - 21);
        Check.due("2", x.cashOf(2), 5000L - 20 - 20);
        Check.due("3 is out", x.cashOf(3), 700L);
        Check.due("4", x.cashOf(4), 780L);
        Check.due("5", x.cashOf(5), 880L);
        Markethall y = loser(0, 3, 5000, 5000, 700, 800);
        y.endDay();
        y.endDay();
        // 97 by four: 24, and 1 of the lowest.
        Check.due("1", y.cashOf(1), 5000L - 100 + 20 - 25);
        Check.due("2", y.cashOf(2), 5000L - 20 - 24);
        Check.due("3", y.cashOf(3), 676L);
        Check.due("4", y.cashOf(4), 776L);
    }

    private static void defaultAlone() {
        Markethall x = loser(0, 5, 5000, 5000);
        x.kill(1);
        x.kill(2);
        x.endDay();
        x.endDay();
        Check.due("out", x.isOut(0), true);
        Check.due("it is lost", x.cashOf(0), 0L);
        Check.due("fund", x.fund(), 0L);
        Check.due("cash", x.cashOf(1), 4920L);
        Check.due("cash", x.cashOf(2), 4980L);
    }

    private static void obligationsOfOthers() {
        Markethall x = loser(500, 5, 5000, 5000);
        endDays(x, 2);
        Check.due("gone", x.owed(0, 0), 0);
        Check.due("9 are to be got", x.owed(1, 0), 9);
        endDays(x, 1);
        Check.due("nobody delivers", x.settled(1, 0), 100);
        Check.due("1 got nothing, 2 neither", x.settled(2, 0), 0);
        Check.due("owed", x.owed(1, 0) + x.owed(2, 0), 10);
    }

    private static void killedTraders() {
        Markethall x = loser(0, 5, 5000, 5000);
        x.endDay();
        Check.due("called", x.isCalled(0), true);
        x.kill(0);
        Check.due("as it was at the end of the last day", x.isCalled(0), true);
        Check.due("it is not looked at margin any more", x.endDay(), 0);
        Check.due("isCalled", x.isCalled(0), false);
        Check.due("cash stays", x.cashOf(0), 105L);
        Check.due("position stays", x.position(0, 0), -10);
        x.endDay();
        Check.due("obligations are settled all the same", x.settled(0, 0), -10);
        Check.due("house", x.houseOf(0), 0);
    }

    private static void needAndEquity() {
        Markethall x = hall(19, 33, 100, 1000);
        x.addStock(7, 51, 100, 100);
        x.issue(0, 0, 1);
        x.issue(0, 1, 1);
        Check.due("6.27 and 3.57, each cut", x.need(0), 9L);
        Check.due("equity", x.equity(0), 126L);
        x.locate(0, 0, 3);
        deal(x, 0, 1, 3, 19);
        deal(x, 0, 1, 1, 19);
        Check.due("without its sign", x.need(0), 21L);
        Check.due("equity", x.equity(0), 126L);
        Check.noIndex("-1", () -> x.equity(-1));
        Check.noIndex("2", () -> x.equity(2));
        Check.noIndex("-1", () -> x.need(-1));
        Check.noIndex("2", () -> x.need(2));
        Check.noIndex("-1", () -> x.cashOf(-1));
        Check.noIndex("2", () -> x.cashOf(2));
    }
}
