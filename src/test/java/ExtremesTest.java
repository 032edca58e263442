import java.util.Random;

/** Any arguments in any state: only what the document names is thrown, and the market stays sound. */
public final class ExtremesTest {
    private static final int[] NUMBERS = {Integer.MIN_VALUE, Integer.MIN_VALUE + 1, -100, -2, -1, 0, 1, 2, 3, 4, 5, 6,
        7, 20, 21, 99, 100, 101, 149, 150, 511, 512, 1000, 1001, 9999, 10000, 1000000, 1000001, Integer.MAX_VALUE - 1,
        Integer.MAX_VALUE};
    private static final Random CHOICE = new Random(7);

    private static int any() {
        return CHOICE.nextInt(3) == 0 ? NUMBERS[CHOICE.nextInt(NUMBERS.length)] : CHOICE.nextInt(6);
    }

    public static void main(String[] args) {
        for (int run = 0; run < 300; run++) {
            Markethall x = new Markethall();
            // More than 512 calls: what they answer is free, but the machine must not throw then either.
            int calls = run % 10 == 0 ? 2000 : 512;
            for (int i = 0; i < calls; i++) {
                call(x, CHOICE.nextInt(47), i);
            }
            if (calls == 512) {
                Check.due("isSound of run " + run, x.isSound(), true);
            }
        }
        wholeRange();
        Check.end();
    }

    private static void call(Markethall x, int which, int i) {
        try {
            if (which < 24) {
                change(x, which, CHOICE.nextBoolean());
            } else {
                ask(x, which, CHOICE.nextBoolean());
            }
        } catch (IndexOutOfBoundsException | IllegalArgumentException | IllegalStateException
                | UnsupportedOperationException | java.util.NoSuchElementException e) {
            boolean isOwn = e.getStackTrace()[0].getClassName().startsWith("Markethall") && e.getClass().getSimpleName().length() > 0
                    && !e.getClass().equals(ArrayIndexOutOfBoundsException.class);
            Check.due("thrown by the class's own words, not by the machine: " + e, isOwn, true);
        }
    }

    private static void change(Markethall x, int which, boolean b) {
        switch (which) {
            case 0: x.addStock(any(), any(), any(), any()); break;
            case 1: x.addStock(20, 50, 100, 500); break;
            case 2: x.addTrader(any()); break;
            case 3: x.addTrader(1000); break;
            case 4: case 5: x.issue(any(), any(), any()); break;
            case 6: x.locate(any(), any(), any()); break;
            case 7: x.endow(any()); break;
            case 8: case 9: case 10: x.limit(any(), any(), any(), b, any(), any()); break;
            case 11: case 12: x.iceberg(any(), any(), any(), b, any(), any(), any()); break;
            case 13: x.peg(any(), any(), any(), b, any(), any()); break;
            case 14: case 15: x.market(any(), any(), any(), b, any()); break;
            case 16: x.stop(any(), any(), any(), b, any(), any()); break;
            case 17: x.cancel(any()); break;
            case 18: if (CHOICE.nextInt(9) == 0) x.kill(any()); break;
            case 19: x.openAuction(any()); break;
            case 20: x.uncross(any()); break;
            case 21: x.endDay(); break;
            case 22: x.split(any(), any()); break;
            default: x.dividend(any(), any()); break;
        }
    }

    private static void ask(Markethall x, int which, boolean b) {
        switch (which) {
            case 24: x.refused(); break;
            case 25: x.stateOf(any()); break;
            case 26: x.leftOf(any()); break;
            case 27: x.priceOf(any()); break;
            case 28: x.phaseOf(any()); break;
            case 29: x.day(); break;
            case 30: x.lastPrice(any()); break;
            case 31: x.best(any(), b); break;
            case 32: x.shown(any(), b, any()); break;
            case 33: x.tradePrice(any()); x.tradeQuantity(any()); break;
            case 34: x.buyerOf(any()); x.sellerOf(any()); break;
            case 35: x.cashOf(any()); break;
            case 36: x.position(any(), any()); break;
            case 37: x.settled(any(), any()); break;
            case 38: x.owed(any(), any()); break;
            case 39: x.houseOf(any()); break;
            case 40: x.equity(any()); break;
            case 41: x.need(any()); break;
            case 42: x.isCalled(any()); break;
            case 43: x.isOut(any()); break;
            case 44: x.alarms((char) any()); break;
            case 45: x.filledShare(); break;
            default: x.meanPrice(); x.trades(); x.fails(); x.fund(); break;
        }
    }

    // The largest of all: nothing runs over.
    private static void wholeRange() {
        Markethall x = new Markethall();
        x.addStock(9999, 100, 100, 9999);
        x.addTrader(0);
        for (int i = 0; i < 400; i++) {
            x.issue(0, 0, 9999);
        }
        long shares = 400L * 9999;
        Check.due("equity", x.equity(0), shares * 9999);
        Check.due("need", x.need(0), shares * 9999);
        Check.due("dividend", x.dividend(0, 99), shares * 99);
        Check.due("split", x.split(0, 5), 1999);
        Check.due("position", x.position(0, 0), shares * 5);
        Check.due("equity", x.equity(0), shares * 99 + shares * 5 * 1999);
        Check.due("isSound", x.isSound(), true);
    }
}
