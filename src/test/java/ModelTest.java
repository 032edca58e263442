import java.util.Random;
import java.util.function.LongSupplier;

/** Long runs of calls, the same ones on Markethall and on the model; all that can be asked is compared. */
public final class ModelTest {
    private static final int RUNS = 200;
    private static final int ACTS = 300;
    private static int wrong = 0;
    private static boolean isWild = false;

    private static String answer(LongSupplier call) {
        try {
            return Long.toString(call.getAsLong());
        } catch (RuntimeException e) {
            return e.getClass().getSimpleName();
        }
    }

    private static boolean same(String what, LongSupplier left, LongSupplier right) {
        String got = answer(left);
        String due = answer(right);
        if (got.equals(due)) {
            return true;
        }
        wrong++;
        System.out.println(what + " answered " + got + ", due is " + due);
        return false;
    }

    public static void main(String[] args) {
        long trades = 0;
        for (int run = 0; run < RUNS && wrong == 0; run++) {
            trades += run(run);
        }
        if (trades < RUNS) {
            wrong++;
            System.out.println("only " + trades + " trades in all runs: they tell too little");
        }
        System.out.println(wrong == 0 ? "all answers are as due" : wrong + " answers are not as due");
        System.exit(wrong == 0 ? 0 : 1);
    }

    private static int run(int seed) {
        Random r = new Random(seed);
        Markethall x = new Markethall();
        Model m = new Model();
        int centre = seed % 5 == 0 ? 3 : seed % 5 == 1 ? 9000 : 20;
        boolean isDaily = seed % 3 == 0;
        isWild = seed % 2 == 0;
        for (int i = 0; i < ACTS; i++) {
            boolean isRight = act(x, m, r, i, centre, isDaily, "run " + seed + ", act " + i + ": ");
            if (!isRight || !compare(x, m, "run " + seed + ", behind act " + i + ": ")) {
                break;
            }
        }
        return x.trades();
    }

    // A wild run has prices that jump, so that traders lose more than they have.
    private static int price(Random r, int centre) {
        if (r.nextInt(40) == 0) {
            return r.nextInt(3) * 5000;
        }
        return Math.max(1, isWild ? r.nextInt(2 * centre + 10) : centre + r.nextInt(7) - 3);
    }

    private static boolean act(Markethall x, Model m, Random r, int i, int centre, boolean isDaily, String where) {
        if (i < 3 || r.nextInt(100) == 0) {
            int p = price(r, centre), rate = r.nextInt(101), band = isWild ? 100 : 1 + r.nextInt(r.nextBoolean() ? 100 : 30), pool = r.nextInt(100);
            return same(where + "addStock", () -> x.addStock(p, rate, band, pool), () -> m.addStock(p, rate, band, pool));
        }
        if (i < 8 || r.nextInt(100) == 0) {
            int cash = isWild ? r.nextInt(2 * centre) : r.nextInt(3) * r.nextInt(40 * centre);
            return same(where + "addTrader", () -> x.addTrader(cash), () -> m.addTrader(cash));
        }
        int t = r.nextInt(100) == 0 ? r.nextInt(9) - 1 : r.nextInt(5);
        int s = r.nextInt(100) == 0 ? r.nextInt(5) - 1 : r.nextInt(2) * r.nextInt(3);
        if (i < 11) {
            int n = 1 + r.nextInt(100);
            return same(where + "locate", () -> x.locate(t, s, n), () -> m.locate(t, s, n));
        }
        if (i < 14) {
            int n = 1 + r.nextInt(60);
            return same(where + "issue", () -> x.issue(t, s, n), () -> m.issue(t, s, n));
        }
        int v = r.nextInt(100) == 0 ? r.nextInt(4) - 1 : r.nextInt(2);
        boolean b = r.nextBoolean();
        int q = r.nextInt(60) == 0 ? r.nextInt(1004) - 1 : 1 + r.nextInt(20);
        int p = price(r, s >= 0 && s < m.shares.size() ? m.shares.get(s).last : centre);
        int which = r.nextInt(isDaily ? 34 : 24);
        switch (which) {
            case 0: case 1: case 2: case 3: case 4: case 5: case 6:
                return same(where + "limit", () -> x.limit(t, s, v, b, q, p), () -> m.send("limit", t, s, v, b, q, p, 0));
            case 7: case 8: {
                int peak = r.nextInt(50) == 0 ? r.nextInt(1003) : isWild ? 1 : 1 + r.nextInt(6);
                return same(where + "iceberg", () -> x.iceberg(t, s, v, b, q, p, peak), () -> m.send("iceberg", t, s, v, b, q, p, peak));
            }
            case 9: case 10: {
                int offset = r.nextInt(30) == 0 ? r.nextInt(103) - 1 : r.nextInt(4);
                return same(where + "peg", () -> x.peg(t, s, v, b, q, offset), () -> m.send("peg", t, s, v, b, q, offset, 0));
            }
            case 11: case 12: case 13:
                return same(where + "market", () -> x.market(t, s, v, b, q), () -> m.send("market", t, s, v, b, q, 0, 0));
            case 14: case 15:
                return same(where + "stop", () -> x.stop(t, s, v, b, q, p), () -> m.send("stop", t, s, v, b, q, p, 0));
            case 16: case 17: {
                int order = r.nextInt(Math.max(1, m.tickets.size() + 1)) - r.nextInt(2);
                return same(where + "cancel", () -> x.cancel(order), () -> m.cancel(order));
            }
            case 18:
                return same(where + "openAuction", () -> x.openAuction(s), () -> m.openAuction(s));
            case 19: case 20:
                return same(where + "uncross", () -> x.uncross(s), () -> m.uncross(s));
            case 21: {
                int n = r.nextInt(30) == 0 ? r.nextInt(10002) : 1 + r.nextInt(20);
                return same(where + "locate", () -> x.locate(t, s, n), () -> m.locate(t, s, n));
            }
            case 22:
                return rareAct(x, m, r, t, s, where);
            default:
                if (which == 23 && r.nextInt(3) > 0) {
                    return true;
                }
                return same(where + "endDay", x::endDay, m::endDay);
        }
    }

    private static boolean rareAct(Markethall x, Model m, Random r, int t, int s, String where) {
        switch (r.nextInt(5)) {
            case 0: {
                int by = r.nextInt(10) == 0 ? r.nextInt(8) : 2 + r.nextInt(2);
                return same(where + "split", () -> x.split(s, by), () -> m.split(s, by));
            }
            case 1: {
                int amount = r.nextInt(10) == 0 ? r.nextInt(102) : 1 + r.nextInt(5);
                return same(where + "dividend", () -> x.dividend(s, amount), () -> m.dividend(s, amount));
            }
            case 2: {
                int cash = r.nextInt(300);
                return same(where + "endow", () -> x.endow(cash), () -> m.endow(cash));
            }
            case 3: {
                if (r.nextInt(4) > 0) {
                    return true;
                }
                return same(where + "kill", () -> x.kill(t), () -> m.kill(t));
            }
            default: {
                int n = r.nextInt(10) == 0 ? r.nextInt(10002) : 1 + r.nextInt(20);
                return same(where + "issue", () -> x.issue(t, s, n), () -> m.issue(t, s, n));
            }
        }
    }

    private static boolean compare(Markethall x, Model m, String where) {
        boolean ok = same(where + "refused", x::refused, m::refused)
                & same(where + "trades", x::trades, () -> m.deals.size())
                & same(where + "fund", x::fund, () -> m.fund)
                & same(where + "day", x::day, () -> m.day)
                & same(where + "fails", x::fails, () -> m.fails)
                & same(where + "alarms w", () -> x.alarms('w'), () -> m.alarms('w'))
                & same(where + "alarms s", () -> x.alarms('s'), () -> m.alarms('s'))
                & same(where + "filledShare", () -> Float.floatToIntBits(x.filledShare()), () -> Float.floatToIntBits(m.filledShare()))
                & same(where + "meanPrice", () -> Double.doubleToLongBits(x.meanPrice()), () -> Double.doubleToLongBits(m.meanPrice()))
                & same(where + "isSound", () -> x.isSound() ? 1 : 0, () -> 1);
        for (int k = -1; k < 4; k++) {
            ok &= compareStock(x, m, k, where + "stock " + k + " ");
        }
        for (int k = -1; k < 7; k++) {
            ok &= compareTrader(x, m, k, where + "trader " + k + " ");
        }
        for (int k = -1; k <= m.tickets.size(); k++) {
            int n = k;
            ok &= same(where + "stateOf " + n, () -> x.stateOf(n), () -> m.stateOf(n))
                    & same(where + "leftOf " + n, () -> x.leftOf(n), () -> m.leftOf(n))
                    & same(where + "priceOf " + n, () -> x.priceOf(n), () -> m.priceOf(n));
        }
        for (int k : new int[] {-1, 0, 1, 2, 3, 149, 150, m.deals.size() - 1, m.deals.size()}) {
            ok &= same(where + "tradePrice " + k, () -> x.tradePrice(k), () -> m.deal(k).price())
                    & same(where + "tradeQuantity " + k, () -> x.tradeQuantity(k), () -> m.deal(k).quantity())
                    & same(where + "buyerOf " + k, () -> x.buyerOf(k), () -> m.deal(k).buyer())
                    & same(where + "sellerOf " + k, () -> x.sellerOf(k), () -> m.deal(k).seller());
        }
        return ok;
    }

    private static boolean compareStock(Markethall x, Model m, int k, String where) {
        boolean ok = same(where + "lastPrice", () -> x.lastPrice(k), () -> m.lastPrice(k))
                & same(where + "phaseOf", () -> x.phaseOf(k), () -> m.phaseOf(k))
                & same(where + "houseOf", () -> x.houseOf(k), () -> m.houseOf(k));
        for (int side = 0; side < 2; side++) {
            boolean b = side == 0;
            ok &= same(where + "best", () -> x.best(k, b), () -> m.best(k, b));
            int near = k >= 0 && k < m.shares.size() ? m.shares.get(k).last : 1;
            for (int p = near - 3; p < near + 4; p++) {
                int price = p;
                ok &= same(where + "shown " + price, () -> x.shown(k, b, price), () -> m.shown(k, b, price));
            }
        }
        return ok;
    }

    private static boolean compareTrader(Markethall x, Model m, int k, String where) {
        boolean ok = same(where + "cashOf", () -> x.cashOf(k), () -> m.person(k).cash)
                & same(where + "equity", () -> x.equity(k), () -> m.equity(k))
                & same(where + "need", () -> x.need(k), () -> m.need(k))
                & same(where + "isCalled", () -> x.isCalled(k) ? 1 : 0, () -> m.person(k).called ? 1 : 0)
                & same(where + "isOut", () -> x.isOut(k) ? 1 : 0, () -> m.person(k).out ? 1 : 0);
        for (int stock = -1; stock < 4; stock++) {
            int s = stock;
            ok &= same(where + "position " + s, () -> x.position(k, s), () -> m.position(k, s))
                    & same(where + "settled " + s, () -> x.settled(k, s), () -> m.settled(k, s))
                    & same(where + "owed " + s, () -> x.owed(k, s), () -> m.owed(k, s));
        }
        return ok;
    }
}
