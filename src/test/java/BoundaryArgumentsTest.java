import java.util.NoSuchElementException;

/**
 * Promises 1 to 47, number by number: the least and the greatest that is taken, what is thrown beyond them, which
 * exception comes first, what is answered where there is nothing, and that what throws changes nothing.
 */
public final class BoundaryArgumentsTest {
    private static final Class<IndexOutOfBoundsException> INDEX = IndexOutOfBoundsException.class;
    private static final Class<IllegalArgumentException> ARGUMENT = IllegalArgumentException.class;
    private static final Class<IllegalStateException> STATE = IllegalStateException.class;
    private static final Class<UnsupportedOperationException> OPERATION = UnsupportedOperationException.class;
    private static final Class<NoSuchElementException> ELEMENT = NoSuchElementException.class;
    private static final int FAR = Integer.MAX_VALUE;
    private static final String UNTOUCHED = Trace.of(hall());

    /** A call with the one number that is tried. */
    interface Call {
        Object on(Markethall x, int number);
    }

    public static void main(String[] args) {
        nothingYet();
        numbersOfStocksAndTraders();
        numbersOfOrders();
        numbersOfActions();
        stocksAndTraders();
        ordersAndTrades();
        firstOfStocksAndTraders();
        firstOfOrders();
        firstOfActions();
        kindsOfAlarms();
        refusedOrders();
        questions();
        most512();
        fullHall();
        fullOfStops();
        fullAuction();
        fullDays();
        Check.end();
    }

    // Two stocks, the second in an auction; three traders, of whom the third is out; thirteen orders.
    private static Markethall hall() {
        Markethall x = new Markethall();
        x.addStock(20, 50, 50, 500);
        x.addStock(30, 50, 10, 500);
        x.addTrader(1000);
        x.addTrader(40);
        x.addTrader(1000);
        x.issue(0, 0, 100);
        x.issue(0, 1, 50);
        x.locate(1, 0, 30);
        x.locate(1, 1, 10);
        x.limit(0, 0, 0, false, 10, 22);
        x.iceberg(0, 0, 1, false, 10, 22, 4);
        x.peg(0, 0, 0, false, 5, 1);
        x.limit(1, 0, 0, true, 10, 19);
        x.stop(2, 0, 0, true, 3, 23);
        x.stop(0, 0, 0, false, 3, 18);
        x.market(2, 0, 1, true, 3);
        x.limit(1, 0, 0, false, 8, 22);
        x.market(0, 0, 0, false, 7);
        x.openAuction(1);
        x.limit(0, 1, 0, false, 5, 30);
        x.endDay();
        for (int i = 0; i < 4; i++) {
            x.cancel(x.limit(1, 1, 0, true, 1, 1));
        }
        return x;
    }

    private static void untouched(String what, Markethall x) {
        Check.due(what + ": what it changed", Trace.difference(Trace.of(x), UNTOUCHED), "nothing");
    }

    private static void taken(String what, Call call, int number) {
        Markethall x = hall();
        Check.throwing(what + " " + number, null, () -> call.on(x, number));
    }

    private static void refused(String what, Class<? extends RuntimeException> due, Call call, int number) {
        Markethall x = hall();
        Check.throwing(what + " " + number, due, () -> call.on(x, number));
        untouched(what + " " + number, x);
    }

    private static void number(String what, int least, int most, Call call) {
        taken(what, call, least);
        taken(what, call, most);
        refused(what, ARGUMENT, call, least - 1);
        refused(what, ARGUMENT, call, most + 1);
        refused(what, ARGUMENT, call, Integer.MIN_VALUE);
        refused(what, ARGUMENT, call, FAR);
    }

    private static void index(String what, int count, Call call) {
        taken(what, call, 0);
        taken(what, call, count - 1);
        refused(what, INDEX, call, -1);
        refused(what, INDEX, call, count);
        refused(what, INDEX, call, Integer.MIN_VALUE);
        refused(what, INDEX, call, FAR);
    }

    private static void first(String what, Class<? extends RuntimeException> due, Check.Call call) {
        Check.throwing(what, due, call);
    }

    // Promise 1: "Creates a market without stocks and traders, on the day 0."
    private static void nothingYet() {
        Markethall x = new Markethall();
        Check.due("day", x.day(), 0);
        Call[] ofStocks = {(h, n) -> h.openAuction(n), (h, n) -> h.uncross(n), (h, n) -> h.phaseOf(n),
            (h, n) -> h.split(n, 2), (h, n) -> h.dividend(n, 1), (h, n) -> h.lastPrice(n), (h, n) -> h.best(n, true),
            (h, n) -> h.shown(n, true, 1), (h, n) -> h.houseOf(n)};
        Call[] ofTraders = {(h, n) -> h.kill(n), (h, n) -> h.cashOf(n), (h, n) -> h.equity(n), (h, n) -> h.need(n),
            (h, n) -> h.isCalled(n), (h, n) -> h.isOut(n), (h, n) -> h.position(n, 0), (h, n) -> h.settled(n, 0),
            (h, n) -> h.owed(n, 0), (h, n) -> h.issue(n, 0, 1), (h, n) -> h.locate(n, 0, 1)};
        Call[] ofOrders = {(h, n) -> h.cancel(n), (h, n) -> h.stateOf(n), (h, n) -> h.leftOf(n), (h, n) -> h.priceOf(n)};
        Call[] ofTrades = {(h, n) -> h.tradePrice(n), (h, n) -> h.tradeQuantity(n), (h, n) -> h.buyerOf(n),
            (h, n) -> h.sellerOf(n)};
        for (Call[] calls : new Call[][] {ofStocks, ofTraders, ofOrders, ofTrades}) {
            for (Call call : calls) {
                first("0 of a new object", INDEX, () -> call.on(x, 0));
            }
        }
        first("refused: none was sent", ELEMENT, x::refused);
        first("filledShare: there are none", ELEMENT, x::filledShare);
        first("meanPrice: there are none", ELEMENT, x::meanPrice);
        Check.due("no trades, fund, fails, alarms", x.trades() + x.fund() + x.fails() + x.alarms('w') + x.alarms('s'), 0L);
        Check.due("sound", x.isSound(), true);
        Check.due("one stock without traders", x.addStock(1, 0, 1, 0), 0);
        Check.due("uncross of nothing", x.openAuction(0) + x.uncross(0), (int) 'c');
        Check.due("dividend for nobody", x.dividend(0, 99), 0L);
        Check.due("split", x.split(0, 5), 1);
        Check.due("endDay of nobody", x.endDay(), 0);
        first("best: there is none", ELEMENT, () -> x.best(0, true));
        first("best: there is none", ELEMENT, () -> x.best(0, false));
        Check.due("shown: nothing", x.shown(0, true, 1), 0);
        Check.due("endow", x.endow(1), 1L);
        Check.due("sound", x.isSound(), true);
    }

    // Promises 2 to 6.
    private static void numbersOfStocksAndTraders() {
        number("addStock price", 1, 9999, (x, n) -> x.addStock(n, 50, 50, 50));
        number("addStock rate", 0, 100, (x, n) -> x.addStock(50, n, 50, 50));
        number("addStock band", 1, 100, (x, n) -> x.addStock(50, 50, n, 50));
        number("addStock pool", 0, 9999, (x, n) -> x.addStock(50, 50, 50, n));
        number("addTrader cash", 0, 1000000, (x, n) -> x.addTrader(n));
        number("issue shares", 1, 9999, (x, n) -> x.issue(0, 0, n));
        number("endow cash", 1, 1000000, (x, n) -> x.endow(n));
        refused("locate", ARGUMENT, (x, n) -> x.locate(0, 0, n), 0);
        refused("locate", ARGUMENT, (x, n) -> x.locate(0, 0, n), Integer.MIN_VALUE);
        refused("locate", ARGUMENT, (x, n) -> x.locate(0, 0, n), 10000);
        refused("locate", ARGUMENT, (x, n) -> x.locate(0, 0, n), FAR);
        refused("locate: there are not so many", OPERATION, (x, n) -> x.locate(0, 0, n), 9999);
        refused("locate: there are not so many", OPERATION, (x, n) -> x.locate(0, 0, n), 471);
        taken("locate: all of the pool", (x, n) -> x.locate(0, 0, n), 470);
        taken("locate: the least", (x, n) -> x.locate(0, 0, n), 1);
        Markethall x = new Markethall();
        x.addStock(1, 0, 1, 9999);
        x.addStock(1, 0, 1, 0);
        x.addTrader(0);
        first("none in an empty pool", OPERATION, () -> x.locate(0, 1, 1));
        Check.due("the greatest pool at once", x.locate(0, 0, 9999), 0);
        first("none is left", OPERATION, () -> x.locate(0, 0, 1));
    }

    // Promises 7 to 11.
    private static void numbersOfOrders() {
        for (int k = 0; k < 5; k++) {
            int kind = k;
            number("venue of kind " + kind, 0, 1, (x, n) -> send(x, kind, 2, 0, n, 5, 5));
            number("quantity of kind " + kind, 1, 1000, (x, n) -> send(x, kind, 2, 0, 0, n, 5));
        }
        number("limit price", 1, 9999, (x, n) -> x.limit(2, 0, 0, true, 5, n));
        number("iceberg price", 1, 9999, (x, n) -> x.iceberg(2, 0, 0, true, 5, n, 5));
        number("iceberg peak", 1, 1000, (x, n) -> x.iceberg(2, 0, 0, true, 5, 5, n));
        number("peg offset", 0, 99, (x, n) -> x.peg(2, 0, 0, true, 5, n));
        number("stop trigger", 1, 9999, (x, n) -> x.stop(2, 0, 0, true, 5, n));
    }

    // Promises 23, 24 and 27.
    private static void numbersOfActions() {
        number("split by", 2, 5, (x, n) -> x.split(0, n));
        number("dividend amount", 1, 99, (x, n) -> x.dividend(0, n));
        Markethall x = hall();
        for (int price : new int[] {Integer.MIN_VALUE, -22, -1, 0, 21, 23, 10000, FAR}) {
            Check.due("shown at " + price + ": any price can be asked", x.shown(0, false, price), 0);
        }
        Check.due("shown at 22", x.shown(0, false, 22) > 0, true);
    }

    private static int send(Markethall x, int kind, int trader, int stock, int venue, int quantity, int level) {
        switch (kind) {
            case 0: return x.limit(trader, stock, venue, true, quantity, level);
            case 1: return x.iceberg(trader, stock, venue, true, quantity, level, 1000);
            case 2: return x.peg(trader, stock, venue, true, quantity, level);
            case 3: return x.market(trader, stock, venue, true, quantity);
            default: return x.stop(trader, stock, venue, true, quantity, level);
        }
    }

    // "if there is no such trader or stock", of all that name one.
    private static void stocksAndTraders() {
        index("issue trader", 3, (x, n) -> x.issue(n, 0, 5));
        index("issue stock", 2, (x, n) -> x.issue(0, n, 5));
        index("locate trader", 3, (x, n) -> x.locate(n, 0, 5));
        index("locate stock", 2, (x, n) -> x.locate(0, n, 5));
        for (int k = 0; k < 5; k++) {
            int kind = k;
            index("trader of kind " + kind, 3, (x, n) -> send(x, kind, n, 0, 0, 5, 5));
            index("stock of kind " + kind, 2, (x, n) -> send(x, kind, 2, n, 0, 5, 5));
        }
        index("kill", 3, (x, n) -> x.kill(n));
        index("openAuction", 2, (x, n) -> x.openAuction(n));
        index("phaseOf", 2, (x, n) -> x.phaseOf(n));
        index("split stock", 2, (x, n) -> x.split(n, 2));
        index("dividend stock", 2, (x, n) -> x.dividend(n, 1));
        index("lastPrice", 2, (x, n) -> x.lastPrice(n));
        index("best to sell", 2, (x, n) -> x.best(n, false));
        index("shown to buy", 2, (x, n) -> x.shown(n, true, 5));
        index("shown to sell", 2, (x, n) -> x.shown(n, false, 5));
        index("cashOf", 3, (x, n) -> x.cashOf(n));
        index("position trader", 3, (x, n) -> x.position(n, 0));
        index("position stock", 2, (x, n) -> x.position(0, n));
        index("settled trader", 3, (x, n) -> x.settled(n, 0));
        index("settled stock", 2, (x, n) -> x.settled(0, n));
        index("owed trader", 3, (x, n) -> x.owed(n, 0));
        index("owed stock", 2, (x, n) -> x.owed(0, n));
        index("houseOf", 2, (x, n) -> x.houseOf(n));
        index("equity", 3, (x, n) -> x.equity(n));
        index("need", 3, (x, n) -> x.need(n));
        index("isCalled", 3, (x, n) -> x.isCalled(n));
        index("isOut", 3, (x, n) -> x.isOut(n));
        for (int n : new int[] {-1, 2, Integer.MIN_VALUE, FAR}) {
            refused("uncross", INDEX, (x, number) -> x.uncross(number), n);
            refused("best to buy", INDEX, (x, number) -> x.best(number, true), n);
        }
        refused("uncross in the phase c", OPERATION, (x, n) -> x.uncross(n), 0);
        taken("uncross in the phase a", (x, n) -> x.uncross(n), 1);
        taken("best to buy where there is one", (x, n) -> x.best(n, true), 0);
        refused("best to buy where there is none", ELEMENT, (x, n) -> x.best(n, true), 1);
    }

    // "if there is no such order", "if there is no such trade, or it is not kept".
    private static void ordersAndTrades() {
        index("stateOf", 14, (x, n) -> x.stateOf(n));
        index("leftOf", 14, (x, n) -> x.leftOf(n));
        index("tradePrice", 2, (x, n) -> x.tradePrice(n));
        index("tradeQuantity", 2, (x, n) -> x.tradeQuantity(n));
        index("buyerOf", 2, (x, n) -> x.buyerOf(n));
        index("sellerOf", 2, (x, n) -> x.sellerOf(n));
        for (int n : new int[] {-1, 14, Integer.MIN_VALUE, FAR}) {
            refused("cancel", INDEX, (x, number) -> x.cancel(number), n);
            refused("priceOf", INDEX, (x, number) -> x.priceOf(number), n);
        }
        taken("cancel the first one", (x, n) -> x.cancel(n), 0);
        taken("cancel one that waits as a stop", (x, n) -> x.cancel(n), 4);
        refused("cancel what was traded whole", OPERATION, (x, n) -> x.cancel(n), 6);
        refused("cancel what was cancelled, the last one", OPERATION, (x, n) -> x.cancel(n), 13);
        taken("priceOf a limit", (x, n) -> x.priceOf(n), 0);
        taken("priceOf a peg", (x, n) -> x.priceOf(n), 2);
        refused("priceOf a stop: it does not rest", ELEMENT, (x, n) -> x.priceOf(n), 4);
        refused("priceOf what was traded whole", ELEMENT, (x, n) -> x.priceOf(n), 6);
        refused("priceOf what was cancelled", ELEMENT, (x, n) -> x.priceOf(n), 13);
    }

    // "If several exceptions apply, the one that is listed first is thrown": promises 2 to 5.
    private static void firstOfStocksAndTraders() {
        Markethall x = new Markethall();
        for (int i = 0; i < 3; i++) {
            Check.due("stock", x.addStock(10, 10, 10, 10), i);
        }
        for (int i = 0; i < 6; i++) {
            Check.due("trader", x.addTrader(10), i);
        }
        first("a fourth stock", STATE, () -> x.addStock(10, 10, 10, 10));
        first("a fourth stock, price", ARGUMENT, () -> x.addStock(0, 10, 10, 10));
        first("a fourth stock, rate", ARGUMENT, () -> x.addStock(10, 101, 10, 10));
        first("a fourth stock, band", ARGUMENT, () -> x.addStock(10, 10, 0, 10));
        first("a fourth stock, pool", ARGUMENT, () -> x.addStock(10, 10, 10, -1));
        first("no fourth stock", INDEX, () -> x.lastPrice(3));
        Check.due("a third stock", x.lastPrice(2), 10);
        first("a seventh trader", STATE, () -> x.addTrader(10));
        first("a seventh trader, cash", ARGUMENT, () -> x.addTrader(-1));
        first("no seventh trader", INDEX, () -> x.cashOf(6));
        Check.due("a sixth trader", x.cashOf(5), 10L);
        x.kill(5);
        first("issue: trader, before shares", INDEX, () -> x.issue(6, 0, 0));
        first("issue: stock, before shares", INDEX, () -> x.issue(5, 3, 0));
        first("issue: shares, before out", ARGUMENT, () -> x.issue(5, 0, 0));
        first("issue: out", OPERATION, () -> x.issue(5, 0, 1));
        Check.due("issue: in", x.issue(4, 0, 1), 1);
        first("locate: trader, before shares", INDEX, () -> x.locate(6, 0, 0));
        first("locate: stock, before shares", INDEX, () -> x.locate(5, 3, 0));
        first("locate: shares, before out and the pool", ARGUMENT, () -> x.locate(5, 0, 10000));
        first("locate: out, though there are as many", OPERATION, () -> x.locate(5, 0, 10));
        first("locate: in, though there are not as many", OPERATION, () -> x.locate(4, 0, 11));
        Check.due("locate", x.locate(4, 0, 10), 0);
        first("kill: trader", INDEX, () -> x.kill(6));
        first("kill: out", OPERATION, () -> x.kill(5));
        Check.due("kill: in, without orders", x.kill(4), 0);
    }

    // The same of promises 7 to 11: no such trader or stock, then the numbers, then 100 orders, then what it is refused by.
    private static void firstOfOrders() {
        Markethall x = new Markethall();
        x.addStock(10, 10, 10, 10);
        x.addTrader(10);
        x.addTrader(10);
        x.kill(1);
        for (int i = 0; i < 99; i++) {
            Check.due("order", x.limit(0, 0, 0, true, 1, 5), i);
        }
        Check.due("a refused one takes no room", x.market(0, 0, 0, false, 1), -1);
        Check.due("nor does a second one", x.limit(1, 0, 0, true, 1, 5), -1);
        Check.due("the hundredth, of one that is over at once", x.market(0, 0, 0, true, 1), 99);
        Check.due("over", x.stateOf(99), 'x');
        for (int k = 0; k < 5; k++) {
            int kind = k;
            first(kind + ": trader before all", INDEX, () -> send(x, kind, 2, 0, 2, 0, 0));
            first(kind + ": stock before all", INDEX, () -> send(x, kind, 0, 1, 2, 0, 0));
            first(kind + ": venue before 100 orders", ARGUMENT, () -> send(x, kind, 0, 0, 2, 1, 5));
            first(kind + ": quantity before 100 orders", ARGUMENT, () -> send(x, kind, 0, 0, 0, 1001, 5));
            first(kind + ": 100 orders", STATE, () -> send(x, kind, 0, 0, 0, 1, 5));
            first(kind + ": 100 orders before out", STATE, () -> send(x, kind, 1, 0, 0, 1, 5));
        }
        first("price before 100 orders", ARGUMENT, () -> x.limit(0, 0, 0, true, 1, 0));
        first("price before 100 orders", ARGUMENT, () -> x.iceberg(0, 0, 0, true, 1, 10000, 1));
        first("peak before 100 orders", ARGUMENT, () -> x.iceberg(0, 0, 0, true, 1, 1, 1001));
        first("offset before 100 orders", ARGUMENT, () -> x.peg(0, 0, 0, true, 1, 100));
        first("trigger before 100 orders", ARGUMENT, () -> x.stop(0, 0, 0, true, 1, 0));
        Check.due("none of these was sent", x.refused(), '-');
        Check.due("room comes by no cancel", x.cancel(0), 1);
        first("still 100", STATE, () -> x.limit(0, 0, 0, true, 1, 5));
        first("no order 100", INDEX, () -> x.stateOf(100));
    }

    // The same of promises 13, 17, 19, 23, 24 and 26.
    private static void firstOfActions() {
        Markethall x = hall();
        Check.due("split", x.split(0, 2), 9);
        first("split: stock, before by", INDEX, () -> x.split(2, 6));
        first("split: by, before twice", ARGUMENT, () -> x.split(0, 6));
        first("split: by, before twice", ARGUMENT, () -> x.split(0, 1));
        first("split: twice", OPERATION, () -> x.split(0, 5));
        Check.due("no second split", x.lastPrice(0), 9);
        Check.due("split of the other", x.split(1, 5), 6);
        first("dividend: stock, before the amount", INDEX, () -> x.dividend(2, 0));
        first("dividend: stock, before the amount", INDEX, () -> x.dividend(-1, 100));
    }

    // Promise 43: "'w' or 's'".
    private static void kindsOfAlarms() {
        Markethall x = hall();
        for (int kind = 0; kind <= Character.MAX_VALUE; kind++) {
            char letter = (char) kind;
            Class<? extends RuntimeException> due = letter == 'w' || letter == 's' ? null : ARGUMENT;
            Check.throwing("alarms " + kind, due, () -> x.alarms(letter));
        }
    }

    // "An order is refused, and gets no number": it changes nothing but what refused() answers.
    private static void refusedOrders() {
        for (int k = 0; k < 5; k++) {
            int kind = k;
            Markethall x = hall();
            Check.due("b of kind " + kind, sell(x, kind, 30), -1);
            Check.due("letter", x.refused(), 'b');
            untouched("b of kind " + kind, x);
            Markethall y = hall();
            Check.due("as much as there is, of kind " + kind, sell(y, kind, 29), 14);
            Check.due("letter", y.refused(), '-');
        }
        Markethall x = hall();
        Check.due("c", x.market(2, 1, 0, true, 1), -1);
        Check.due("letter", x.refused(), 'c');
        first("a call that throws", ARGUMENT, () -> x.limit(0, 0, 0, true, 1, 0));
        Check.due("it was not sent: the letter stays", x.refused(), 'c');
        untouched("c", x);
    }

    // Trader 1 has a position of 7, 30 located shares, and 8 that are offered.
    private static int sell(Markethall x, int kind, int quantity) {
        switch (kind) {
            case 0: return x.limit(1, 0, 0, false, quantity, 99);
            case 1: return x.iceberg(1, 0, 0, false, quantity, 99, 1);
            case 2: return x.peg(1, 0, 0, false, quantity, 0);
            case 3: return x.market(1, 0, 0, false, quantity);
            default: return x.stop(1, 0, 0, false, quantity, 1);
        }
    }

    // What is only asked changes nothing, twice as well as once.
    private static void questions() {
        Markethall x = hall();
        for (int i = 0; i < 2; i++) {
            int n = i;
            Check.Call[] calls = {x::refused, () -> x.stateOf(n), () -> x.leftOf(n), () -> x.priceOf(n), () -> x.phaseOf(n),
                x::day, () -> x.lastPrice(n), () -> x.best(n, false), () -> x.shown(n, false, 22), x::trades,
                () -> x.tradePrice(n), () -> x.tradeQuantity(n), () -> x.buyerOf(n), () -> x.sellerOf(n), () -> x.cashOf(n),
                () -> x.position(n, n), () -> x.settled(n, n), () -> x.owed(n, n), () -> x.houseOf(n), x::fund,
                () -> x.equity(n), () -> x.need(n), () -> x.isCalled(n), () -> x.isOut(n), () -> x.alarms('w'), x::fails,
                x::filledShare, x::meanPrice, x::isSound};
            for (Check.Call call : calls) {
                Check.due("asked again", Trace.answer(call), Trace.answer(call));
            }
        }
        untouched("asking", x);
    }

    // "An object is used for at most 512 calls": all of them can be acts.
    private static void most512() {
        Markethall x = new Markethall();
        x.addStock(9999, 100, 100, 0);
        x.addTrader(1000000);
        for (int i = 1; i <= 508; i++) {
            if (x.issue(0, 0, 9999) != i * 9999) {
                Check.due("issue " + i, "wrong", "right");
            }
        }
        Check.due("the 511th call", x.split(0, 5), 1999);
        Check.due("the 512th call", x.isSound(), true);

        Markethall y = new Markethall();
        for (int i = 0; i < 511; i++) {
            y.endDay();
        }
        Check.due("the 512th call", y.day(), 511);

        Markethall z = new Markethall();
        for (int i = 0; i < 511; i++) {
            z.endow(1000000);
        }
        Check.due("the 512th call", z.endow(1000000), 512000000L);
    }

    // "At most 3 stocks", "at most 6 traders", "at most 100 orders": with all of them, each call reaches the last one.
    private static void fullHall() {
        Markethall x = new Markethall();
        for (int i = 0; i < 3; i++) {
            x.addStock(10, 50, 100, 1000);
        }
        for (int i = 0; i < 6; i++) {
            x.addTrader(i == 5 ? 0 : 1000);
            Check.due("issue", x.issue(i, 2, 60), 60);
            Check.due("issue more", x.issue(i, 2, 40), 100);
            Check.due("settled", x.settled(i, 2), 100);
        }
        x.locate(5, 0, 30);
        for (int i = 0; i < 97; i++) {
            Check.due("order", x.limit(i % 6, 2, i % 2, i % 2 == 0, 1, i % 2 == 0 ? 8 : 12), i);
        }
        x.limit(5, 0, 0, false, 30, 10);
        x.market(4, 0, 0, true, 30);
        Check.due("the hundredth trades with the last one that rests", x.limit(5, 2, 0, true, 16, 12), 99);
        Check.due("state", x.stateOf(99), 'x');
        Check.due("up to one of its own", x.alarms('w'), 1);
        Check.due("the last one", x.stateOf(95), 'o');
        Check.due("traded", x.trades(), 1 + 2);
        Check.due("best", x.best(2, true), 8);
        Check.due("shown to buy", x.shown(2, true, 8), 49);
        Check.due("shown to sell", x.shown(2, false, 12), 46);
        Check.due("auction", x.openAuction(2), 'c');
        Check.due("nothing to trade", x.uncross(2), 0);
        Check.due("cancel", x.cancel(96), 1);
        Check.due("split", x.split(2, 2), 6);
        Check.due("left of the last one to buy", x.leftOf(94), 2);
        Check.due("price of it", x.priceOf(94), 4);
        Check.due("dividend", x.dividend(2, 1), 1200L);
        Check.due("paid to the last trader", x.cashOf(5), 300L - 2 * 12 + 204);
        Check.due("filled", x.filledShare(), 4f / 100f);
        Check.due("sound", x.isSound(), true);
        Check.due("endDay", x.endDay(), 0);
        Check.due("orders of the last trader", x.kill(5), 16);
        Check.due("of the first one", x.kill(0), 16);
        Check.due("endDay", x.endDay(), 0);
        Check.due("sound", x.isSound(), true);
        Check.due("day", x.day(), 2);
    }

    // A hundred stops that fire one behind the other, as an auction ends or as an order trades.
    private static void fullOfStops() {
        Markethall x = new Markethall();
        x.addStock(10, 50, 100, 1000);
        x.addTrader(1000);
        x.openAuction(0);
        for (int i = 0; i < 100; i++) {
            Check.due("stop", x.stop(0, 0, 0, true, 1, 10), i);
        }
        x.uncross(0);
        for (int i = 0; i < 100; i++) {
            Check.due("fired " + i, x.stateOf(i), 'x');
        }
        Markethall y = new Markethall();
        y.addStock(10, 50, 100, 1000);
        y.addTrader(1000);
        y.addTrader(1000);
        y.issue(1, 0, 100);
        for (int i = 0; i < 98; i++) {
            Check.due("stop", y.stop(0, 0, 0, true, 1, 11), i);
        }
        y.limit(1, 0, 0, false, 100, 11);
        y.market(0, 0, 0, true, 1);
        Check.due("all have traded", y.trades(), 99);
        Check.due("the last one", y.stateOf(97), 'd');
        Check.due("left", y.leftOf(98), 1);
        Check.due("filled", y.filledShare(), 99f / 100f);
    }

    // As many trades as 99 orders can make: each ends but one of two.
    private static void fullAuction() {
        Markethall x = new Markethall();
        x.addStock(10, 50, 100, 1000);
        x.addTrader(1000000);
        x.addTrader(1000000);
        x.issue(1, 0, 9999);
        x.openAuction(0);
        for (int i = 0; i < 49; i++) {
            x.limit(0, 0, 0, true, 200, 11);
        }
        for (int i = 0; i < 50; i++) {
            x.limit(1, 0, 1, false, i == 0 || i == 49 ? 100 : 200, 11);
        }
        Check.due("one that takes no part", x.limit(1, 0, 1, false, 1, 12), 99);
        Check.due("traded", x.uncross(0), 9800);
        Check.due("trades", x.trades(), 98);
        Check.due("of 100 each", x.meanPrice() * x.tradeQuantity(97) + x.tradeQuantity(0), 1200.0);
        Check.due("all whole but one", x.filledShare(), 99f / 100f);
        Check.due("position", x.position(0, 0), 9800);
        Check.due("sound", x.isSound(), true);
    }

    // With 3 stocks and 6 traders: the last trader lacks shares of the last stock, is bought in, and defaults.
    private static void fullDays() {
        Markethall x = new Markethall();
        for (int i = 0; i < 3; i++) {
            x.addStock(10, 100, 100, 100);
        }
        for (int i = 0; i < 5; i++) {
            x.addTrader(1000);
        }
        x.addTrader(84);
        x.locate(5, 2, 4);
        for (int i = 0; i < 2; i++) {
            x.limit(5, 2, 0, false, 4, 10);
            x.market(0, 2, 0, true, 4);
        }
        Check.due("84 for 80", x.endDay(), 0);
        for (int i = 1; i < 5; i++) {
            Check.due("nobody is called", x.endDay(), 0);
        }
        Check.due("fails", x.fails(), 12);
        Check.due("bought in", x.position(5, 2), -4);
        Check.due("for 44", x.cashOf(5), 120L);
        Check.due("dividend", x.dividend(2, 11), 0L);
        Check.due("called: 36 for 40", x.endDay(), 1);
        Check.due("it is the last one", x.isCalled(5), true);
        Check.due("it defaults", x.endDay(), 1);
        Check.due("out", x.isOut(5), true);
        Check.due("house", x.houseOf(2), -4);
        Check.due("36 for the fund", x.fund(), 36L);
        Check.due("nobody pays", x.cashOf(4), 1000L);
        Check.due("sound", x.isSound(), true);
    }
}
