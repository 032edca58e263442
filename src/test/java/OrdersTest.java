/** Promises 7 to 17: what orders are given and refused by, and how they are cancelled. */
public final class OrdersTest {
    private static Markethall hall() {
        Markethall x = new Markethall();
        x.addStock(20, 50, 100, 500);
        x.addStock(30, 50, 100, 500);
        x.addTrader(1000);
        x.addTrader(1000);
        x.issue(0, 0, 100);
        return x;
    }

    public static void main(String[] args) {
        wrongArguments();
        edgesOfArguments();
        fullBook();
        refusals();
        shortSelling();
        cancel();
        spoofing();
        kill();
        states();
        prices();
        Check.end();
    }

    private static int send(Markethall x, int kind, int t, int s, int v, int q) {
        switch (kind) {
            case 0: return x.limit(t, s, v, true, q, 5);
            case 1: return x.iceberg(t, s, v, true, q, 5, 5);
            case 2: return x.peg(t, s, v, true, q, 5);
            case 3: return x.market(t, s, v, true, q);
            default: return x.stop(t, s, v, true, q, 50);
        }
    }

    private static void wrongArguments() {
        Markethall x = hall();
        for (int k = 0; k < 5; k++) {
            int kind = k;
            Check.noIndex(kind + " trader -1", () -> send(x, kind, -1, 0, 0, 5));
            Check.noIndex(kind + " trader 2", () -> send(x, kind, 2, 0, 0, 5));
            Check.noIndex(kind + " stock -1", () -> send(x, kind, 0, -1, 0, 5));
            Check.noIndex(kind + " stock 2, before the range", () -> send(x, kind, 0, 2, 2, 0));
            Check.noArgument(kind + " venue -1", () -> send(x, kind, 0, 0, -1, 5));
            Check.noArgument(kind + " venue 2", () -> send(x, kind, 0, 0, 2, 5));
            Check.noArgument(kind + " quantity 0", () -> send(x, kind, 0, 0, 0, 0));
            Check.noArgument(kind + " quantity 1001", () -> send(x, kind, 0, 0, 0, 1001));
        }
        Check.noArgument("limit price 0", () -> x.limit(0, 0, 0, true, 5, 0));
        Check.noArgument("limit price 10000", () -> x.limit(0, 0, 0, true, 5, 10000));
        Check.noArgument("iceberg price 0", () -> x.iceberg(0, 0, 0, true, 5, 0, 5));
        Check.noArgument("iceberg price 10000", () -> x.iceberg(0, 0, 0, true, 5, 10000, 5));
        Check.noArgument("iceberg peak 0", () -> x.iceberg(0, 0, 0, true, 5, 5, 0));
        Check.noArgument("iceberg peak 1001", () -> x.iceberg(0, 0, 0, true, 5, 5, 1001));
        Check.noArgument("peg offset -1", () -> x.peg(0, 0, 0, true, 5, -1));
        Check.noArgument("peg offset 100", () -> x.peg(0, 0, 0, true, 5, 100));
        Check.noArgument("stop trigger 0", () -> x.stop(0, 0, 0, true, 5, 0));
        Check.noArgument("stop trigger 10000", () -> x.stop(0, 0, 0, true, 5, 10000));
        Check.noElement("none was sent", () -> x.refused());
        Check.noIndex("no order", () -> x.leftOf(0));
        x.kill(0);
        Check.noArgument("out of range before out", () -> x.limit(0, 0, 0, true, 5, 0));
        Check.noElement("still none was sent", () -> x.refused());
    }

    private static void edgesOfArguments() {
        Markethall x = hall();
        Check.due("limit", x.limit(0, 0, 0, true, 1, 1), 0);
        Check.due("limit", x.limit(0, 0, 1, true, 1000, 9999), 1);
        Check.due("iceberg", x.iceberg(0, 1, 0, true, 1, 1, 1), 2);
        Check.due("iceberg", x.iceberg(0, 1, 1, true, 1000, 9999, 1000), 3);
        Check.due("peg", x.peg(0, 0, 0, true, 1, 0), 4);
        Check.due("peg", x.peg(0, 0, 1, true, 1000, 99), 5);
        Check.due("stop", x.stop(0, 0, 0, false, 1, 1), 6);
        Check.due("stop", x.stop(0, 0, 1, true, 1000, 9999), 7);
        Check.due("market", x.market(1, 0, 0, true, 1), 8);
        Check.due("market", x.market(1, 0, 1, true, 1000), 9);
        Check.due("refused", x.refused(), '-');
        Check.due("shown of a peak above what is left", x.shown(1, true, 9999), 1000);
        Check.due("all of the peak 1", x.shown(1, true, 1), 1);
        Check.due("price less offset 0", x.priceOf(4), 9999);
        Check.due("price less offset 99", x.priceOf(5), 9900);
    }

    private static void fullBook() {
        Markethall x = hall();
        for (int i = 0; i < 100; i++) {
            Check.due("order", x.limit(0, 0, 0, true, 1, 5), i);
        }
        for (int k = 0; k < 5; k++) {
            int kind = k;
            Check.noState(kind + " of 101", () -> send(x, kind, 0, 0, 0, 5));
            Check.noArgument(kind + " of 101, out of range", () -> send(x, kind, 0, 0, 0, 0));
            Check.noIndex(kind + " of 101, no trader", () -> send(x, kind, 5, 0, 0, 0));
        }
        Check.due("cancel makes no room", x.cancel(99), 1);
        Check.noState("still full", () -> x.limit(0, 0, 0, true, 1, 5));
        x.kill(0);
        Check.noState("full before out", () -> x.limit(0, 0, 0, true, 1, 5));
        Check.due("refused", x.refused(), '-');
        Check.noIndex("order 100", () -> x.stateOf(100));
    }

    private static void refusals() {
        Markethall x = hall();
        Check.due("first", x.limit(1, 0, 0, false, 1, 25), -1);
        Check.due("b", x.refused(), 'b');
        Check.noIndex("it got no number", () -> x.stateOf(0));
        Check.noElement("no orders", () -> x.filledShare());
        x.openAuction(0);
        Check.due("market in an auction", x.market(1, 0, 0, false, 1), -1);
        Check.due("c before b", x.refused(), 'c');
        Check.due("limit in an auction", x.limit(0, 0, 0, false, 1, 25), 0);
        Check.due("-", x.refused(), '-');
        x.kill(1);
        Check.due("market of one who is out", x.market(1, 0, 0, false, 1), -1);
        Check.due("k before c", x.refused(), 'k');
        for (int kind = 0; kind < 5; kind++) {
            Check.due(kind + " of one who is out", send(x, kind, 1, 1, 0, 1), -1);
        }
        Check.due("the number goes on", x.limit(0, 1, 0, true, 1, 25), 1);
    }

    private static void shortSelling() {
        Markethall x = hall();
        Check.due("stop", x.stop(0, 0, 0, false, 40, 1), 0);
        Check.due("peg", x.peg(0, 0, 0, false, 30, 1), 1);
        Check.due("iceberg", x.iceberg(0, 0, 0, false, 20, 25, 1), 2);
        Check.due("too much", x.limit(0, 0, 0, false, 11, 25), -1);
        Check.due("too much at once", x.market(0, 0, 0, false, 11), -1);
        Check.due("all", x.limit(0, 0, 1, false, 10, 25), 3);
        Check.due("no more", x.stop(0, 0, 0, false, 1, 1), -1);
        Check.due("to buy is free", x.limit(0, 0, 0, true, 1000, 1), 4);
        Check.due("other stock", x.limit(0, 1, 0, false, 1, 25), -1);
        x.locate(0, 0, 5);
        Check.due("located shares", x.limit(0, 0, 0, false, 6, 25), -1);
        Check.due("located shares", x.limit(0, 0, 0, false, 5, 25), 5);
        x.cancel(0);
        Check.due("what was cancelled counts no more", x.limit(0, 0, 0, false, 40, 25), 6);

        Markethall y = hall();
        y.locate(1, 0, 10);
        y.limit(0, 0, 0, true, 10, 20);
        y.market(1, 0, 0, false, 10);
        Check.due("position", y.position(1, 0), -10);
        Check.due("a position below 0 counts 0", y.limit(1, 0, 0, false, 11, 25), -1);
        Check.due("a position below 0 counts 0", y.limit(1, 0, 0, false, 10, 25), 1 + 1);
    }

    private static void cancel() {
        Markethall x = hall();
        x.limit(0, 0, 0, false, 10, 21);
        x.stop(0, 0, 0, false, 7, 1);
        x.market(1, 0, 0, true, 4);
        Check.noIndex("-1", () -> x.cancel(-1));
        Check.noIndex("3", () -> x.cancel(3));
        Check.noOperation("traded whole", () -> x.cancel(2));
        Check.due("what was left", x.cancel(0), 6);
        Check.due("state", x.stateOf(0), 'x');
        Check.due("left", x.leftOf(0), 0);
        Check.noOperation("twice", () -> x.cancel(0));
        Check.due("a stop", x.cancel(1), 7);
        Check.noElement("it shows no more", () -> x.best(0, false));
    }

    private static void spoofing() {
        Markethall x = hall();
        for (int i = 0; i < 12; i++) {
            x.limit(1, i % 2, 0, true, 1, 5);
        }
        for (int i = 0; i < 4; i++) {
            x.cancel(i);
        }
        Check.due("four", x.alarms('s'), 0);
        Check.noOperation("one that is over does not count", () -> x.cancel(0));
        Check.due("four still", x.alarms('s'), 0);
        x.cancel(4);
        Check.due("five", x.alarms('s'), 1);
        x.cancel(5);
        Check.due("once a day", x.alarms('s'), 1);
        x.endDay();
        for (int i = 6; i < 10; i++) {
            x.cancel(i);
        }
        Check.due("four of the next day", x.alarms('s'), 1);
        x.cancel(10);
        Check.due("five of the next day", x.alarms('s'), 2);

        Markethall y = hall();
        for (int i = 0; i < 12; i++) {
            y.limit(1, 0, 0, true, 1, 5);
        }
        y.limit(0, 0, 0, false, 1, 5);
        for (int i = 1; i < 7; i++) {
            y.cancel(i);
        }
        Check.due("who has traded is not told", y.alarms('s'), 0);
        y.kill(1);
        Check.due("kill is no cancel", y.alarms('s'), 0);
        Check.noArgument("kind", () -> y.alarms('x'));
        Check.noArgument("kind", () -> y.alarms('W'));

        Markethall w = hall();
        w.limit(0, 0, 0, false, 1, 5);
        w.market(1, 0, 0, true, 1);
        w.endDay();
        for (int i = 0; i < 5; i++) {
            w.limit(1, 0, 0, true, 1, 5);
        }
        for (int i = 2; i < 7; i++) {
            w.cancel(i);
        }
        Check.due("a trade of the day before does not count", w.alarms('s'), 1);

        Markethall z = hall();
        for (int i = 0; i < 7; i++) {
            z.limit(i % 2, 0, 0, true, 1, 5);
        }
        for (int i = 0; i < 7; i++) {
            z.cancel(i);
        }
        Check.due("each trader by himself", z.alarms('s'), 0);
    }

    private static void kill() {
        Markethall x = hall();
        x.limit(0, 0, 0, false, 10, 21);
        x.stop(0, 0, 0, false, 7, 1);
        x.limit(1, 0, 0, true, 7, 5);
        x.peg(0, 1, 0, true, 7, 5);
        x.market(1, 0, 0, true, 3);
        Check.noIndex("-1", () -> x.kill(-1));
        Check.noIndex("2", () -> x.kill(2));
        Check.due("rest, stop and peg", x.kill(0), 3);
        Check.due("state", x.stateOf(0), 'x');
        Check.due("state", x.stateOf(1), 'x');
        Check.due("other's", x.stateOf(2), 'o');
        Check.due("isOut", x.isOut(0), true);
        Check.due("isOut", x.isOut(1), false);
        Check.due("cash stays", x.cashOf(0), 1063L);
        Check.due("position stays", x.position(0, 0), 97);
        Check.noOperation("twice", () -> x.kill(0));
        Check.due("none", x.kill(1) + x.alarms('s'), 1);
    }

    private static void states() {
        Markethall x = hall();
        x.limit(0, 0, 0, false, 10, 21);
        x.stop(0, 0, 0, true, 5, 21);
        Check.due("it waits", x.stateOf(1), 'o');
        Check.due("left of a stop", x.leftOf(1), 5);
        x.limit(1, 0, 0, true, 12, 21);
        Check.due("whole", x.stateOf(0), 'd');
        Check.due("left", x.leftOf(0), 0);
        Check.due("in part", x.stateOf(2), 'o');
        Check.due("left", x.leftOf(2), 2);
        Check.due("the stop fired and was cancelled", x.stateOf(1), 'x');
        Check.due("left", x.leftOf(1), 0);
        Check.noIndex("stateOf -1", () -> x.stateOf(-1));
        Check.noIndex("stateOf 3", () -> x.stateOf(3));
        Check.noIndex("leftOf -1", () -> x.leftOf(-1));
        Check.noIndex("leftOf 3", () -> x.leftOf(3));
    }

    private static void prices() {
        Markethall x = hall();
        x.peg(1, 0, 0, true, 5, 3);
        x.peg(0, 0, 0, false, 5, 3);
        Check.noElement("a peg without any", () -> x.priceOf(0));
        Check.noElement("a peg without any", () -> x.priceOf(1));
        x.limit(1, 0, 0, true, 5, 3);
        Check.noElement("less its offset is 0", () -> x.priceOf(0));
        x.limit(1, 0, 1, true, 5, 4);
        Check.due("at either venue", x.priceOf(0), 1);
        x.iceberg(0, 0, 1, false, 5, 9, 1);
        Check.due("least plus offset", x.priceOf(1), 12);
        x.limit(0, 0, 0, false, 5, 11);
        Check.due("least plus offset", x.priceOf(1), 12);
        Check.due("a limit", x.priceOf(3), 4);
        Check.due("an iceberg", x.priceOf(4), 9);
        x.stop(0, 0, 0, true, 5, 50);
        Check.noElement("a stop does not rest", () -> x.priceOf(6));
        x.cancel(4);
        Check.noElement("it is over", () -> x.priceOf(4));
        Check.due("the peg follows", x.priceOf(1), 14);
        x.cancel(3);
        Check.noElement("the peg has none again", () -> x.priceOf(0));
        Check.noIndex("-1", () -> x.priceOf(-1));
        Check.noIndex("7", () -> x.priceOf(7));
        x.limit(0, 1, 0, true, 5, 50);
        Check.noElement("the other stock does not count", () -> x.priceOf(0));
    }
}
