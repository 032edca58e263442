/** Promises 1 to 6, and what is asked of stocks and traders without any trade. */
public final class StocksAndTradersTest {
    public static void main(String[] args) {
        newObject();
        addStock();
        addTrader();
        issue();
        locate();
        endow();
        Check.end();
    }

    private static void newObject() {
        Markethall x = new Markethall();
        Check.due("day", x.day(), 0);
        Check.due("trades", x.trades(), 0);
        Check.due("fund", x.fund(), 0L);
        Check.due("fails", x.fails(), 0);
        Check.due("alarms w", x.alarms('w'), 0);
        Check.due("alarms s", x.alarms('s'), 0);
        Check.due("isSound", x.isSound(), true);
        Check.noIndex("no stock", () -> x.lastPrice(0));
        Check.noIndex("no trader", () -> x.cashOf(0));
        Check.noIndex("no order", () -> x.stateOf(0));
        Check.noElement("refused", () -> x.refused());
        Check.noElement("filledShare", () -> x.filledShare());
        Check.noElement("meanPrice", () -> x.meanPrice());
        Check.due("endDay of nothing", x.endDay(), 0);
        Check.due("day", x.day(), 1);
    }

    private static void addStock() {
        Markethall x = new Markethall();
        Check.noArgument("price 0", () -> x.addStock(0, 50, 50, 50));
        Check.noArgument("price 10000", () -> x.addStock(10000, 50, 50, 50));
        Check.noArgument("rate -1", () -> x.addStock(5, -1, 50, 50));
        Check.noArgument("rate 101", () -> x.addStock(5, 101, 50, 50));
        Check.noArgument("band 0", () -> x.addStock(5, 50, 0, 50));
        Check.noArgument("band 101", () -> x.addStock(5, 50, 101, 50));
        Check.noArgument("pool -1", () -> x.addStock(5, 50, 50, -1));
        Check.noArgument("pool 10000", () -> x.addStock(5, 50, 50, 10000));
        Check.noIndex("nothing was added", () -> x.phaseOf(0));
        Check.due("least of all", x.addStock(1, 0, 1, 0), 0);
        Check.due("most of all", x.addStock(9999, 100, 100, 9999), 1);
        Check.due("third", x.addStock(7, 20, 30, 40), 2);
        Check.due("last price", x.lastPrice(0), 1);
        Check.due("last price", x.lastPrice(1), 9999);
        Check.due("phase", x.phaseOf(2), 'c');
        Check.due("house", x.houseOf(2), 0);
        Check.noState("fourth", () -> x.addStock(7, 20, 30, 40));
        Check.noArgument("fourth, out of range first", () -> x.addStock(0, 20, 30, 40));
        Check.noIndex("stock 3", () -> x.lastPrice(3));
        Check.noIndex("stock -1", () -> x.lastPrice(-1));
    }

    private static void addTrader() {
        Markethall x = new Markethall();
        x.addStock(10, 10, 10, 10);
        Check.noArgument("cash -1", () -> x.addTrader(-1));
        Check.noArgument("cash 1000001", () -> x.addTrader(1000001));
        Check.due("no cash", x.addTrader(0), 0);
        Check.due("most cash", x.addTrader(1000000), 1);
        for (int i = 2; i < 6; i++) {
            Check.due("trader", x.addTrader(i), i);
        }
        Check.noState("seventh", () -> x.addTrader(5));
        Check.noArgument("seventh, out of range first", () -> x.addTrader(-5));
        Check.due("cash", x.cashOf(1), 1000000L);
        Check.due("cash", x.cashOf(5), 5L);
        Check.due("position", x.position(5, 0), 0);
        Check.due("settled", x.settled(5, 0), 0);
        Check.due("owed", x.owed(5, 0), 0);
        Check.due("isOut", x.isOut(5), false);
        Check.due("isCalled", x.isCalled(5), false);
        Check.noIndex("trader 6", () -> x.cashOf(6));
        Check.noIndex("trader -1", () -> x.cashOf(-1));
    }

    private static void issue() {
        Markethall x = new Markethall();
        x.addStock(10, 10, 10, 10);
        x.addTrader(7);
        x.addTrader(7);
        Check.noIndex("trader 2", () -> x.issue(2, 0, 5));
        Check.noIndex("trader -1", () -> x.issue(-1, 0, 5));
        Check.noIndex("stock 1", () -> x.issue(0, 1, 5));
        Check.noIndex("stock -1, before the range", () -> x.issue(0, -1, 0));
        Check.noArgument("shares 0", () -> x.issue(0, 0, 0));
        Check.noArgument("shares 10000", () -> x.issue(0, 0, 10000));
        Check.due("issue", x.issue(0, 0, 9999), 9999);
        Check.due("issue more", x.issue(0, 0, 1), 10000);
        Check.due("position", x.position(0, 0), 10000);
        Check.due("settled", x.settled(0, 0), 10000);
        Check.due("cash stays", x.cashOf(0), 7L);
        Check.due("other", x.position(1, 0), 0);
        Check.due("equity", x.equity(0), 100007L);
        Check.due("need", x.need(0), 10000L);
        x.kill(1);
        Check.noOperation("out", () -> x.issue(1, 0, 5));
        Check.noArgument("range before out", () -> x.issue(1, 0, 0));
        Check.due("isSound", x.isSound(), true);
    }

    private static void locate() {
        Markethall x = new Markethall();
        x.addStock(10, 10, 10, 30);
        x.addTrader(7);
        x.addTrader(7);
        Check.noIndex("trader 2", () -> x.locate(2, 0, 5));
        Check.noIndex("stock 1", () -> x.locate(0, 1, 5));
        Check.noIndex("stock -1, before the range", () -> x.locate(0, -1, 0));
        Check.noArgument("shares 0", () -> x.locate(0, 0, 0));
        Check.noArgument("shares 10000, before the pool", () -> x.locate(0, 0, 10000));
        Check.noOperation("more than the pool", () -> x.locate(0, 0, 31));
        Check.due("locate", x.locate(0, 0, 20), 10);
        Check.noOperation("more than is left", () -> x.locate(1, 0, 11));
        Check.due("all that is left", x.locate(1, 0, 10), 0);
        Check.due("position stays", x.position(0, 0), 0);
        Check.due("settled stays", x.settled(0, 0), 0);
        Check.due("sells what is located", x.limit(0, 0, 0, false, 20, 10), 0);
        Check.due("not more", x.limit(0, 0, 0, false, 1, 10), -1);
        x.addStock(10, 10, 10, 30);
        x.kill(1);
        Check.noOperation("out", () -> x.locate(1, 1, 5));
        Check.noArgument("range before out", () -> x.locate(1, 1, 0));
    }

    private static void endow() {
        Markethall x = new Markethall();
        Check.noArgument("cash 0", () -> x.endow(0));
        Check.noArgument("cash 1000001", () -> x.endow(1000001));
        Check.due("least", x.endow(1), 1L);
        Check.due("most", x.endow(1000000), 1000001L);
        Check.due("fund", x.fund(), 1000001L);
    }
}
