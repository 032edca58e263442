/**
 * What a hall answers from here on, as one text: all that can be asked, then calls that bring to light what can't be
 * asked (pools, located shares, references, turns, counts of cancels, ages), then all that can be asked again. Two halls
 * that stand alike have the same trace. It makes fewer than 400 calls on a hall of up to 16 orders.
 */
final class Trace {
    private final StringBuilder text = new StringBuilder();

    private Trace() {
    }

    static String of(Markethall x) {
        Trace trace = new Trace();
        trace.ask(x);
        trace.bringToLight(x);
        trace.ask(x);
        return trace.text.toString();
    }

    /** Answers the first line in which two traces differ, or "nothing". */
    static String difference(String one, String two) {
        String[] ones = one.split("\n");
        String[] twos = two.split("\n");
        for (int i = 0; i < Math.min(ones.length, twos.length); i++) {
            if (!ones[i].equals(twos[i])) {
                return "line " + i + ": " + ones[i] + ", not " + twos[i];
            }
        }
        return ones.length == twos.length ? "nothing" : "the length";
    }

    /** Answers the answer, or the simple name of what was thrown. */
    static String answer(Check.Call call) {
        try {
            return String.valueOf(call.answer());
        } catch (RuntimeException e) {
            return e.getClass().getSimpleName();
        }
    }

    private void note(String what, Check.Call call) {
        text.append(what).append(' ').append(answer(call)).append('\n');
    }

    private void ask(Markethall x) {
        note("day", x::day);
        note("trades", x::trades);
        note("fund", x::fund);
        note("fails", x::fails);
        note("w", () -> x.alarms('w'));
        note("s", () -> x.alarms('s'));
        note("filledShare", x::filledShare);
        note("meanPrice", x::meanPrice);
        note("isSound", x::isSound);
        for (int i = 0; i < 3; i++) {
            askStock(x, i);
        }
        for (int i = 0; i < 4; i++) {
            askTrader(x, i);
        }
        for (int i = 0; i < 16; i++) {
            int order = i;
            note("stateOf", () -> x.stateOf(order));
            note("leftOf", () -> x.leftOf(order));
            note("priceOf", () -> x.priceOf(order));
        }
        for (int i = 0; i < 2; i++) {
            int trade = i;
            note("tradePrice", () -> x.tradePrice(trade));
            note("tradeQuantity", () -> x.tradeQuantity(trade));
            note("buyerOf", () -> x.buyerOf(trade));
            note("sellerOf", () -> x.sellerOf(trade));
        }
    }

    private void askStock(Markethall x, int stock) {
        note("lastPrice", () -> x.lastPrice(stock));
        note("phaseOf", () -> x.phaseOf(stock));
        note("houseOf", () -> x.houseOf(stock));
        note("best to buy", () -> x.best(stock, true));
        note("best to sell", () -> x.best(stock, false));
        note("shown at 22", () -> x.shown(stock, false, 22));
    }

    private void askTrader(Markethall x, int trader) {
        note("cashOf", () -> x.cashOf(trader));
        note("equity", () -> x.equity(trader));
        note("need", () -> x.need(trader));
        note("isCalled", () -> x.isCalled(trader));
        note("isOut", () -> x.isOut(trader));
        for (int i = 0; i < 2; i++) {
            int stock = i;
            note("position", () -> x.position(trader, stock));
            note("settled", () -> x.settled(trader, stock));
            note("owed", () -> x.owed(trader, stock));
        }
    }

    private void bringToLight(Markethall x) {
        for (int i = 0; i < 2; i++) {
            int stock = i;
            note("pool", () -> x.locate(0, stock, 1));
            note("uncross", () -> x.uncross(stock));
            // Until one is refused: what is located, and what is offered.
            for (int step = 0; step < 3; step++) {
                note("sell", () -> x.limit(1, stock, 1, false, 9, 50));
            }
            note("buy at the bound of the band", () -> x.limit(2, stock, 0, true, 30, 33));
            note("phase", () -> x.phaseOf(stock));
        }
        note("fifth cancel", () -> x.cancel(3));
        note("s", () -> x.alarms('s'));
        note("split", () -> x.split(0, 2));
        note("dividend", () -> x.dividend(0, 3));
        for (int i = 0; i < 4; i++) {
            note("endDay", x::endDay);
            note("fails", x::fails);
            note("settled", () -> x.settled(2, 0));
        }
        note("another order", () -> x.limit(0, 0, 0, true, 1, 1));
    }
}
