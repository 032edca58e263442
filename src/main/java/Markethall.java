import java.util.NoSuchElementException;

/**
 * A stock market entire: books of two venues, auctions, traders with margin, settlement by days.
 *
 * <p>The outer class looks at what a call is given and throws what is due; Hall holds the state;
 * Matching, Auction and DayEnd change it. Every call that changes the market is kept as an Act, so
 * that isSound can do all of them again on a second hall.
 */
public final class Markethall {
    private static final int MAX_STOCKS = 3;
    private static final int MAX_TRADERS = 6;
    private static final int MAX_ORDERS = 100;
    private static final int MAX_ACTS = 512;
    private static final int MAX_KEPT = 150;
    private static final int MAX_PRICE = 9999;
    private static final int MAX_SHARES = 9999;
    private static final int MAX_CASH = 1000000;
    private static final int MAX_QUANTITY = 1000;
    private static final int MAX_OFFSET = 99;
    private static final int MAX_AMOUNT = 99;
    private static final int MAX_STEPS = 1000000;

    private static final int DAYS_TO_SETTLE = 2;
    private static final int DUE_ROWS = DAYS_TO_SETTLE + 1;
    private static final int AGE_OF_BUY_IN = 3;
    private static final int CANCELS_TO_REPORT = 5;

    // Acts; the first five are the kinds of orders, too: up to ICEBERG they show, up to PEG they rest.
    private static final int LIMIT = 0;
    private static final int ICEBERG = 1;
    private static final int PEG = 2;
    private static final int MARKET = 3;
    private static final int STOP = 4;
    private static final int ADD_STOCK = 5;
    private static final int ADD_TRADER = 6;
    private static final int ISSUE = 7;
    private static final int LOCATE = 8;
    private static final int ENDOW = 9;
    private static final int CANCEL = 10;
    private static final int KILL = 11;
    private static final int OPEN_AUCTION = 12;
    private static final int UNCROSS = 13;
    private static final int END_DAY = 14;
    private static final int SPLIT = 15;
    private static final int DIVIDEND = 16;

    private static final char CONTINUOUS = 'c';
    private static final char AUCTION = 'a';
    private static final char HALTED = 'h';
    private static final char OPEN = 'o';
    private static final char DONE = 'd';
    private static final char CANCELLED = 'x';
    private static final char ACCEPTED = '-';
    private static final char NONE_SENT = ' ';

    private final Hall hall;
    private final Hall copy;
    private final Act[] acts;
    private int actCount;
    private int doneAgain;

    public Markethall() {
        hall = new Hall();
        copy = new Hall();
        acts = new Act[MAX_ACTS];
        actCount = 0;
        doneAgain = 0;
    }

    // Stocks and traders.

    public int addStock(int price, int rate, int band, int pool)
            throws IllegalArgumentException, IllegalStateException {
        checkRange(price, 1, MAX_PRICE);
        checkRange(rate, 0, 100);
        checkRange(band, 1, 100);
        checkRange(pool, 0, MAX_SHARES);
        if (hall.stockCount >= MAX_STOCKS) {
            throw new IllegalStateException("there are 3 stocks");
        }
        Act act = new Act(ADD_STOCK, 0, 0, pool);
        act.level = price;
        act.rate = rate;
        act.band = band;
        return (int) play(hall, keep(act));
    }

    public int addTrader(int cash) throws IllegalArgumentException, IllegalStateException {
        checkRange(cash, 0, MAX_CASH);
        if (hall.traderCount >= MAX_TRADERS) {
            throw new IllegalStateException("there are 6 traders");
        }
        return (int) play(hall, keep(new Act(ADD_TRADER, 0, 0, cash)));
    }

    public int issue(int trader, int stock, int shares)
            throws IndexOutOfBoundsException, IllegalArgumentException, UnsupportedOperationException {
        checkTrader(trader);
        checkStock(stock);
        checkRange(shares, 1, MAX_SHARES);
        checkIn(trader);
        return (int) play(hall, keep(new Act(ISSUE, trader, stock, shares)));
    }

    public int locate(int trader, int stock, int shares)
            throws IndexOutOfBoundsException, IllegalArgumentException, UnsupportedOperationException {
        checkTrader(trader);
        checkStock(stock);
        checkRange(shares, 1, MAX_SHARES);
        checkIn(trader);
        if (shares > hall.stocks[stock].pool) {
            throw new UnsupportedOperationException("there are not so many in the pool");
        }
        return (int) play(hall, keep(new Act(LOCATE, trader, stock, shares)));
    }

    public long endow(int cash) throws IllegalArgumentException {
        checkRange(cash, 1, MAX_CASH);
        return play(hall, keep(new Act(ENDOW, 0, 0, cash)));
    }

    // Orders.

    public int limit(int trader, int stock, int venue, boolean isBuy, int quantity, int price)
            throws IndexOutOfBoundsException, IllegalArgumentException, IllegalStateException {
        checkTrader(trader);
        checkStock(stock);
        checkVenueAndQuantity(venue, quantity);
        checkRange(price, 1, MAX_PRICE);
        checkRoom();
        Act act = new Act(LIMIT, trader, stock, quantity);
        act.choose(venue, isBuy, price, 0);
        return (int) play(hall, keep(act));
    }

    public int iceberg(int trader, int stock, int venue, boolean isBuy, int quantity, int price, int peak)
            throws IndexOutOfBoundsException, IllegalArgumentException, IllegalStateException {
        checkTrader(trader);
        checkStock(stock);
        checkVenueAndQuantity(venue, quantity);
        checkRange(price, 1, MAX_PRICE);
        checkRange(peak, 1, MAX_QUANTITY);
        checkRoom();
        Act act = new Act(ICEBERG, trader, stock, quantity);
        act.choose(venue, isBuy, price, peak);
        return (int) play(hall, keep(act));
    }

    public int peg(int trader, int stock, int venue, boolean isBuy, int quantity, int offset)
            throws IndexOutOfBoundsException, IllegalArgumentException, IllegalStateException {
        checkTrader(trader);
        checkStock(stock);
        checkVenueAndQuantity(venue, quantity);
        checkRange(offset, 0, MAX_OFFSET);
        checkRoom();
        Act act = new Act(PEG, trader, stock, quantity);
        act.choose(venue, isBuy, offset, 0);
        return (int) play(hall, keep(act));
    }

    public int market(int trader, int stock, int venue, boolean isBuy, int quantity)
            throws IndexOutOfBoundsException, IllegalArgumentException, IllegalStateException {
        checkTrader(trader);
        checkStock(stock);
        checkVenueAndQuantity(venue, quantity);
        checkRoom();
        Act act = new Act(MARKET, trader, stock, quantity);
        act.choose(venue, isBuy, 0, 0);
        return (int) play(hall, keep(act));
    }

    public int stop(int trader, int stock, int venue, boolean isBuy, int quantity, int trigger)
            throws IndexOutOfBoundsException, IllegalArgumentException, IllegalStateException {
        checkTrader(trader);
        checkStock(stock);
        checkVenueAndQuantity(venue, quantity);
        checkRange(trigger, 1, MAX_PRICE);
        checkRoom();
        Act act = new Act(STOP, trader, stock, quantity);
        act.choose(venue, isBuy, trigger, 0);
        return (int) play(hall, keep(act));
    }

    public char refused() throws NoSuchElementException {
        if (hall.refusal == NONE_SENT) {
            throw new NoSuchElementException("no order was sent");
        }
        return hall.refusal;
    }

    public int cancel(int order) throws IndexOutOfBoundsException, UnsupportedOperationException {
        checkOrder(order);
        if (!hall.orders[order].isOpen()) {
            throw new UnsupportedOperationException("the order is over");
        }
        return (int) play(hall, keep(new Act(CANCEL, 0, 0, order)));
    }

    public int kill(int trader) throws IndexOutOfBoundsException, UnsupportedOperationException {
        checkTrader(trader);
        checkIn(trader);
        return (int) play(hall, keep(new Act(KILL, trader, 0, 0)));
    }

    public char stateOf(int order) throws IndexOutOfBoundsException {
        checkOrder(order);
        return hall.orders[order].state;
    }

    public int leftOf(int order) throws IndexOutOfBoundsException {
        checkOrder(order);
        return hall.orders[order].left;
    }

    public int priceOf(int order) throws IndexOutOfBoundsException, NoSuchElementException {
        checkOrder(order);
        int price = hall.priceAt(hall.orders[order]);
        if (price == 0) {
            throw new NoSuchElementException("it does not rest, or has no price");
        }
        return price;
    }

    // Phases.

    public char openAuction(int stock) throws IndexOutOfBoundsException {
        checkStock(stock);
        return (char) play(hall, keep(new Act(OPEN_AUCTION, 0, stock, 0)));
    }

    public int uncross(int stock) throws IndexOutOfBoundsException, UnsupportedOperationException {
        checkStock(stock);
        if (hall.stocks[stock].phase != AUCTION) {
            throw new UnsupportedOperationException("there is no auction");
        }
        return (int) play(hall, keep(new Act(UNCROSS, 0, stock, 0)));
    }

    public char phaseOf(int stock) throws IndexOutOfBoundsException {
        checkStock(stock);
        return hall.stocks[stock].phase;
    }

    // Days and actions.

    public int endDay() {
        return (int) play(hall, keep(new Act(END_DAY, 0, 0, 0)));
    }

    public int day() {
        return hall.today;
    }

    public int split(int stock, int by)
            throws IndexOutOfBoundsException, IllegalArgumentException, UnsupportedOperationException {
        checkStock(stock);
        checkRange(by, 2, 5);
        if (hall.stocks[stock].wasSplit) {
            throw new UnsupportedOperationException("the stock was split already");
        }
        return (int) play(hall, keep(new Act(SPLIT, 0, stock, by)));
    }

    public long dividend(int stock, int amount) throws IndexOutOfBoundsException, IllegalArgumentException {
        checkStock(stock);
        checkRange(amount, 1, MAX_AMOUNT);
        return play(hall, keep(new Act(DIVIDEND, 0, stock, amount)));
    }

    // What is asked.

    public int lastPrice(int stock) throws IndexOutOfBoundsException {
        checkStock(stock);
        return hall.stocks[stock].last;
    }

    public int best(int stock, boolean isBuy) throws IndexOutOfBoundsException, NoSuchElementException {
        checkStock(stock);
        int price = hall.bestShown(stock, isBuy);
        if (price == 0) {
            throw new NoSuchElementException("no order shows");
        }
        return price;
    }

    public int shown(int stock, boolean isBuy, int price) throws IndexOutOfBoundsException {
        checkStock(stock);
        return hall.shownAt(stock, isBuy, price);
    }

    public int trades() {
        return hall.tape.count;
    }

    public int tradePrice(int trade) throws IndexOutOfBoundsException {
        checkTrade(trade);
        return hall.tape.price[hall.tape.rowOf(trade)];
    }

    public int tradeQuantity(int trade) throws IndexOutOfBoundsException {
        checkTrade(trade);
        return hall.tape.quantity[hall.tape.rowOf(trade)];
    }

    public int buyerOf(int trade) throws IndexOutOfBoundsException {
        checkTrade(trade);
        return hall.tape.buyer[hall.tape.rowOf(trade)];
    }

    public int sellerOf(int trade) throws IndexOutOfBoundsException {
        checkTrade(trade);
        return hall.tape.seller[hall.tape.rowOf(trade)];
    }

    public long cashOf(int trader) throws IndexOutOfBoundsException {
        checkTrader(trader);
        return hall.traders[trader].cash;
    }

    public int position(int trader, int stock) throws IndexOutOfBoundsException {
        checkTrader(trader);
        checkStock(stock);
        return hall.traders[trader].held[stock];
    }

    public int settled(int trader, int stock) throws IndexOutOfBoundsException {
        checkTrader(trader);
        checkStock(stock);
        return hall.traders[trader].ready[stock];
    }

    public int owed(int trader, int stock) throws IndexOutOfBoundsException {
        checkTrader(trader);
        checkStock(stock);
        return hall.traders[trader].sumOfDue(stock);
    }

    public int houseOf(int stock) throws IndexOutOfBoundsException {
        checkStock(stock);
        return hall.stocks[stock].house;
    }

    public long fund() {
        return hall.houseCash;
    }

    public long equity(int trader) throws IndexOutOfBoundsException {
        checkTrader(trader);
        return hall.worthOf(hall.traders[trader]);
    }

    public long need(int trader) throws IndexOutOfBoundsException {
        checkTrader(trader);
        return hall.marginOf(hall.traders[trader]);
    }

    public boolean isCalled(int trader) throws IndexOutOfBoundsException {
        checkTrader(trader);
        return hall.traders[trader].called;
    }

    public boolean isOut(int trader) throws IndexOutOfBoundsException {
        checkTrader(trader);
        return hall.traders[trader].out;
    }

    public int alarms(char kind) throws IllegalArgumentException {
        if (kind != 'w' && kind != 's') {
            throw new IllegalArgumentException("there is no such kind");
        }
        return kind == 'w' ? hall.washes : hall.spoofs;
    }

    public int fails() {
        return hall.lacked;
    }

    public float filledShare() throws NoSuchElementException {
        if (hall.orderCount == 0) {
            throw new NoSuchElementException("there are no orders");
        }
        return (float) hall.countDone() / (float) hall.orderCount;
    }

    public double meanPrice() throws NoSuchElementException {
        if (hall.tape.kept() == 0) {
            throw new NoSuchElementException("there are no trades");
        }
        return (double) hall.tape.sumOfValues() / (double) hall.tape.sumOfQuantities();
    }

    public boolean isSound() {
        // The copy stands where the last call left it: only what was done since is to be done again.
        for (; doneAgain < actCount; doneAgain++) {
            play(copy, acts[doneAgain]);
        }
        return hall.isLike(copy) && hall.sumsToIssued();
    }

    // What the calls share.

    private void checkTrader(int trader) {
        if (trader < 0 || trader >= hall.traderCount) {
            throw new IndexOutOfBoundsException("there is no such trader");
        }
    }

    private void checkStock(int stock) {
        if (stock < 0 || stock >= hall.stockCount) {
            throw new IndexOutOfBoundsException("there is no such stock");
        }
    }

    private void checkOrder(int order) {
        if (order < 0 || order >= hall.orderCount) {
            throw new IndexOutOfBoundsException("there is no such order");
        }
    }

    private void checkTrade(int trade) {
        if (trade < 0 || trade >= hall.tape.kept()) {
            throw new IndexOutOfBoundsException("there is no such trade, or it is not kept");
        }
    }

    private static void checkRange(int number, int least, int most) {
        if (number < least || number > most) {
            throw new IllegalArgumentException("a number is out of range");
        }
    }

    private static void checkVenueAndQuantity(int venue, int quantity) {
        checkRange(venue, 0, 1);
        checkRange(quantity, 1, MAX_QUANTITY);
    }

    private void checkRoom() {
        if (hall.orderCount >= MAX_ORDERS) {
            throw new IllegalStateException("there are 100 orders");
        }
    }

    private void checkIn(int trader) {
        if (hall.traders[trader].out) {
            throw new UnsupportedOperationException("the trader is out");
        }
    }

    private Act keep(Act act) {
        if (actCount < acts.length) {
            acts[actCount] = act;
            actCount++;
        }
        return act;
    }

    // The one way in which a hall is changed: isSound relies on it.
    private static long play(Hall hall, Act act) {
        switch (act.what) {
            case ADD_STOCK:
                return hall.openStock(act);
            case ADD_TRADER:
                return hall.openTrader(act.amount);
            case ISSUE:
                return hall.giveShares(act.trader, act.stock, act.amount);
            case LOCATE:
                return hall.lendShares(act.trader, act.stock, act.amount);
            case ENDOW:
                hall.houseCash += act.amount;
                return hall.houseCash;
            case CANCEL:
                return hall.cancelByCall(hall.orders[act.amount]);
            case KILL:
                hall.traders[act.trader].out = true;
                return hall.cancelAllOf(act.trader);
            case OPEN_AUCTION:
                return hall.stocks[act.stock].enter(AUCTION);
            case UNCROSS:
                int traded = Auction.finish(hall, act.stock);
                Matching.run(hall, act.stock, Matching.firstStop(hall, act.stock));
                return traded;
            case END_DAY:
                return DayEnd.close(hall);
            case SPLIT:
                return hall.multiply(act.stock, act.amount);
            case DIVIDEND:
                return hall.payOut(act.stock, act.amount);
            default:
                int number = Matching.come(hall, act);
                Matching.run(hall, act.stock, Matching.toMatch(hall, number));
                return number;
        }
    }

    /** What a call that changed the market was given. */
    private static final class Act {
        final int what;
        final int trader;
        final int stock;
        final int amount;
        int venue;
        boolean isBuy;
        int level;
        int peak;
        int rate;
        int band;

        Act(int what, int trader, int stock, int amount) {
            this.what = what;
            this.trader = trader;
            this.stock = stock;
            this.amount = amount;
        }

        void choose(int venue, boolean isBuy, int level, int peak) {
            this.venue = venue;
            this.isBuy = isBuy;
            this.level = level;
            this.peak = peak;
        }
    }

    private static final class Stock {
        int last;
        int reference;
        int rate;
        int band;
        int pool;
        int house;
        int issued;
        char phase;
        boolean wasSplit;

        void fill(Act act) {
            last = act.level;
            reference = act.level;
            rate = act.rate;
            band = act.band;
            pool = act.amount;
            phase = CONTINUOUS;
        }

        char enter(char next) {
            char before = phase;
            phase = next;
            return before;
        }

        boolean isOutsideBand(int price) {
            return 100L * Math.abs(price - reference) > (long) band * reference;
        }

        void multiply(int by) {
            last = Math.max(1, last / by);
            reference = Math.max(1, reference / by);
            pool *= by;
            house *= by;
            issued *= by;
            wasSplit = true;
        }
    }

    private static final class Trader {
        long cash;
        boolean out;
        boolean called;
        boolean hasTraded;
        boolean isReported;
        int cancels;
        final int[] held = new int[MAX_STOCKS];
        final int[] ready = new int[MAX_STOCKS];
        final int[] located = new int[MAX_STOCKS];
        // What trades made due, to get less to deliver: a row a due day, which comes round again.
        final int[][] due = new int[DUE_ROWS][MAX_STOCKS];
        // What lacked as it was settled last: due as the next day ends.
        final int[] late = new int[MAX_STOCKS];
        final int[] lateAge = new int[MAX_STOCKS];

        void startDay() {
            cancels = 0;
            hasTraded = false;
            isReported = false;
        }

        void clearStock(int stock) {
            held[stock] = 0;
            ready[stock] = 0;
            located[stock] = 0;
            late[stock] = 0;
            lateAge[stock] = 0;
            for (int row = 0; row < DUE_ROWS; row++) {
                due[row][stock] = 0;
            }
        }

        void trade(int stock, int quantity, int price, int dueRow) {
            cash -= (long) price * quantity;
            held[stock] += quantity;
            due[dueRow][stock] += quantity;
            hasTraded = true;
        }

        int sumOfDue(int stock) {
            int sum = late[stock];
            for (int row = 0; row < DUE_ROWS; row++) {
                sum += due[row][stock];
            }
            return sum;
        }

        int deliverable(int stock) {
            return Math.max(0, ready[stock] + located[stock]);
        }

        void multiply(int stock, int by) {
            held[stock] *= by;
            ready[stock] *= by;
            located[stock] *= by;
            late[stock] *= by;
            for (int row = 0; row < DUE_ROWS; row++) {
                due[row][stock] *= by;
            }
        }
    }

    private static final class Order {
        int kind;
        int trader;
        int stock;
        int venue;
        boolean isBuy;
        int left;
        // The price of a limit or iceberg, the offset of a peg, the trigger of a stop.
        int level;
        int peak;
        // What is left of the part of an iceberg that is shown.
        int part;
        int turn;
        char state;

        void fill(Act act) {
            kind = act.what;
            trader = act.trader;
            stock = act.stock;
            venue = act.venue;
            isBuy = act.isBuy;
            left = act.amount;
            level = act.level;
            peak = act.peak;
            state = OPEN;
        }

        boolean isOpen() {
            return state == OPEN;
        }

        boolean shows() {
            return kind <= ICEBERG;
        }

        boolean rests(int atStock, boolean onBuySide) {
            return state == OPEN && kind <= PEG && stock == atStock && isBuy == onBuySide;
        }

        boolean restsAndShows(int atStock, boolean onBuySide) {
            return state == OPEN && kind <= ICEBERG && stock == atStock && isBuy == onBuySide;
        }

        // 0 where a peg has no price, anchor being the best price that shows on its side, or 0.
        int priceBy(int anchor) {
            if (kind != PEG) {
                return level;
            }
            if (anchor == 0) {
                return 0;
            }
            return isBuy ? Math.max(0, anchor - level) : anchor + level;
        }

        int shownPart() {
            return kind == ICEBERG ? part : left;
        }

        void showAnew() {
            part = Math.min(peak, left);
        }

        void take(int quantity) {
            left -= quantity;
            if (left == 0) {
                state = DONE;
            }
        }

        void drop() {
            left = 0;
            state = CANCELLED;
        }

        void multiply(int by) {
            left *= by;
            peak *= by;
            part *= by;
            level = Math.max(kind == PEG ? 0 : 1, level / by);
        }

        boolean isLike(Order other) {
            return kind == other.kind && trader == other.trader && stock == other.stock
                    && venue == other.venue && isBuy == other.isBuy && left == other.left
                    && level == other.level && peak == other.peak && part == other.part
                    && turn == other.turn && state == other.state;
        }
    }

    /** The trades: how many there were, and the last ones. */
    private static final class Tape {
        int count;
        final int[] price = new int[MAX_KEPT];
        final int[] quantity = new int[MAX_KEPT];
        final int[] buyer = new int[MAX_KEPT];
        final int[] seller = new int[MAX_KEPT];

        int kept() {
            return Math.min(count, MAX_KEPT);
        }

        int rowOf(int back) {
            return Math.floorMod(count - 1 - back, MAX_KEPT);
        }

        void write(int tradePrice, int tradeQuantity, int buyTrader, int sellTrader) {
            int row = Math.floorMod(count, MAX_KEPT);
            count++;
            price[row] = tradePrice;
            quantity[row] = tradeQuantity;
            buyer[row] = buyTrader;
            seller[row] = sellTrader;
        }

        long sumOfValues() {
            long sum = 0;
            for (int row = 0; row < kept(); row++) {
                sum += (long) price[row] * quantity[row];
            }
            return sum;
        }

        long sumOfQuantities() {
            long sum = 0;
            for (int row = 0; row < kept(); row++) {
                sum += quantity[row];
            }
            return sum;
        }

        boolean isLike(Tape other) {
            if (count != other.count) {
                return false;
            }
            for (int row = 0; row < kept(); row++) {
                if (price[row] != other.price[row] || quantity[row] != other.quantity[row]
                        || buyer[row] != other.buyer[row] || seller[row] != other.seller[row]) {
                    return false;
                }
            }
            return true;
        }
    }

    /** All that the market is at one time. */
    private static final class Hall {
        final Stock[] stocks = new Stock[MAX_STOCKS];
        final Trader[] traders = new Trader[MAX_TRADERS];
        final Order[] orders = new Order[MAX_ORDERS];
        final Tape tape = new Tape();
        // Used while a stock is settled: what each trader is to get, less what is to be delivered.
        final int[] nets = new int[MAX_TRADERS];
        int stockCount;
        int traderCount;
        int orderCount;
        int today;
        int turns;
        long houseCash;
        int washes;
        int spoofs;
        int lacked;
        char refusal;

        Hall() {
            for (int i = 0; i < MAX_STOCKS; i++) {
                stocks[i] = new Stock();
            }
            for (int i = 0; i < MAX_TRADERS; i++) {
                traders[i] = new Trader();
            }
            for (int i = 0; i < MAX_ORDERS; i++) {
                orders[i] = new Order();
            }
            refusal = NONE_SENT;
        }

        int openStock(Act act) {
            if (stockCount >= MAX_STOCKS) {
                return -1;
            }
            stocks[stockCount].fill(act);
            stockCount++;
            return stockCount - 1;
        }

        int openTrader(int cash) {
            if (traderCount >= MAX_TRADERS) {
                return -1;
            }
            traders[traderCount].cash = cash;
            traderCount++;
            return traderCount - 1;
        }

        int giveShares(int trader, int stock, int shares) {
            traders[trader].held[stock] += shares;
            traders[trader].ready[stock] += shares;
            stocks[stock].issued += shares;
            return traders[trader].held[stock];
        }

        int lendShares(int trader, int stock, int shares) {
            traders[trader].located[stock] += shares;
            stocks[stock].pool -= shares;
            return stocks[stock].pool;
        }

        int cancelByCall(Order order) {
            int left = order.left;
            order.drop();
            Trader trader = traders[order.trader];
            trader.cancels++;
            if (trader.cancels >= CANCELS_TO_REPORT && !trader.hasTraded && !trader.isReported) {
                trader.isReported = true;
                spoofs++;
            }
            return left;
        }

        int cancelAllOf(int trader) {
            int cancelled = 0;
            for (int i = 0; i < orderCount; i++) {
                if (orders[i].isOpen() && orders[i].trader == trader) {
                    orders[i].drop();
                    cancelled++;
                }
            }
            return cancelled;
        }

        int multiply(int stock, int by) {
            stocks[stock].multiply(by);
            for (int i = 0; i < traderCount; i++) {
                traders[i].multiply(stock, by);
            }
            for (int i = 0; i < orderCount; i++) {
                if (orders[i].stock == stock) {
                    orders[i].multiply(by);
                }
            }
            return stocks[stock].last;
        }

        long payOut(int stock, int amount) {
            long paid = (long) stocks[stock].house * amount;
            houseCash += paid;
            for (int i = 0; i < traderCount; i++) {
                long part = (long) traders[i].held[stock] * amount;
                traders[i].cash += part;
                paid += part;
            }
            return paid;
        }

        void trade(Order buy, Order sell, int price, int quantity) {
            int dueRow = Math.floorMod(today + DAYS_TO_SETTLE, DUE_ROWS);
            buy.take(quantity);
            sell.take(quantity);
            traders[buy.trader].trade(buy.stock, quantity, price, dueRow);
            traders[sell.trader].trade(buy.stock, -quantity, price, dueRow);
            stocks[buy.stock].last = price;
            tape.write(price, quantity, buy.trader, sell.trader);
        }

        int nextTurn() {
            turns++;
            return turns;
        }

        // 0 if none shows.
        int bestShown(int stock, boolean isBuy) {
            int best = 0;
            for (int i = 0; i < orderCount; i++) {
                Order order = orders[i];
                if (order.restsAndShows(stock, isBuy)
                        && (best == 0 || (isBuy ? order.level > best : order.level < best))) {
                    best = order.level;
                }
            }
            return best;
        }

        // 0 if the order does not rest, or has no price.
        int priceAt(Order order) {
            if (!order.rests(order.stock, order.isBuy)) {
                return 0;
            }
            return order.priceBy(bestShown(order.stock, order.isBuy));
        }

        int shownAt(int stock, boolean isBuy, int price) {
            int sum = 0;
            for (int i = 0; i < orderCount; i++) {
                if (orders[i].restsAndShows(stock, isBuy) && orders[i].level == price) {
                    sum += orders[i].shownPart();
                }
            }
            return sum;
        }

        // Stops are counted too: they may come to sell.
        long offeredBy(int trader, int stock) {
            long sum = 0;
            for (int i = 0; i < orderCount; i++) {
                Order order = orders[i];
                if (order.isOpen() && order.trader == trader && order.stock == stock && !order.isBuy) {
                    sum += order.left;
                }
            }
            return sum;
        }

        long worthOf(Trader trader) {
            long sum = trader.cash;
            for (int stock = 0; stock < stockCount; stock++) {
                sum += (long) trader.held[stock] * stocks[stock].last;
            }
            return sum;
        }

        long marginOf(Trader trader) {
            long sum = 0;
            for (int stock = 0; stock < stockCount; stock++) {
                long held = Math.abs((long) trader.held[stock]);
                sum += held * stocks[stock].last * stocks[stock].rate / 100;
            }
            return sum;
        }

        int countDone() {
            int done = 0;
            for (int i = 0; i < orderCount; i++) {
                if (orders[i].state == DONE) {
                    done++;
                }
            }
            return done;
        }

        boolean isLike(Hall other) {
            if (stockCount != other.stockCount || traderCount != other.traderCount
                    || orderCount != other.orderCount || houseCash != other.houseCash) {
                return false;
            }
            for (int i = 0; i < orderCount; i++) {
                if (!orders[i].isLike(other.orders[i])) {
                    return false;
                }
            }
            for (int i = 0; i < traderCount; i++) {
                if (traders[i].cash != other.traders[i].cash) {
                    return false;
                }
            }
            return tape.isLike(other.tape) && holdsLike(other);
        }

        private boolean holdsLike(Hall other) {
            for (int stock = 0; stock < stockCount; stock++) {
                if (stocks[stock].house != other.stocks[stock].house) {
                    return false;
                }
                for (int i = 0; i < traderCount; i++) {
                    if (traders[i].held[stock] != other.traders[i].held[stock]) {
                        return false;
                    }
                }
            }
            return true;
        }

        boolean sumsToIssued() {
            for (int stock = 0; stock < stockCount; stock++) {
                int sum = stocks[stock].house;
                for (int i = 0; i < traderCount; i++) {
                    sum += traders[i].held[stock];
                }
                if (sum != stocks[stock].issued) {
                    return false;
                }
            }
            return true;
        }
    }

    /** How orders come, are matched, and let stops fire. */
    private static final class Matching {
        private Matching() {
        }

        static int come(Hall hall, Act act) {
            hall.refusal = refusalOf(hall, act);
            if (hall.refusal != ACCEPTED || hall.orderCount >= MAX_ORDERS) {
                return -1;
            }
            int number = hall.orderCount;
            Order order = hall.orders[number];
            order.fill(act);
            hall.orderCount++;
            if (order.kind != STOP && hall.stocks[act.stock].phase != CONTINUOUS) {
                rest(hall, order);
            }
            return number;
        }

        // The order that came, if it is matched at once; of stops, none but this is looked at yet.
        static Order toMatch(Hall hall, int number) {
            if (number < 0 || number >= hall.orderCount) {
                return null;
            }
            Order order = hall.orders[number];
            boolean isNow = order.kind == STOP ? fires(hall, order) : hall.stocks[order.stock].phase == CONTINUOUS;
            return isNow ? order : null;
        }

        private static char refusalOf(Hall hall, Act act) {
            Trader trader = hall.traders[act.trader];
            if (trader.out) {
                return 'k';
            }
            if (act.what == MARKET && hall.stocks[act.stock].phase != CONTINUOUS) {
                return 'c';
            }
            long most = (long) Math.max(0, trader.held[act.stock]) + trader.located[act.stock];
            if (!act.isBuy && act.amount + hall.offeredBy(act.trader, act.stock) > most) {
                return 'b';
            }
            return ACCEPTED;
        }

        // One by one: the order given, if any, then each stop that fires behind the one before it.
        static void run(Hall hall, int stock, Order first) {
            Order next = first;
            for (int i = 0; i <= MAX_ORDERS && next != null; i++) {
                match(hall, next);
                next = firstStop(hall, stock);
            }
        }

        static Order firstStop(Hall hall, int stock) {
            for (int i = 0; i < hall.orderCount; i++) {
                if (hall.orders[i].stock == stock && fires(hall, hall.orders[i])) {
                    return hall.orders[i];
                }
            }
            return null;
        }

        private static boolean fires(Hall hall, Order order) {
            Stock stock = hall.stocks[order.stock];
            if (order.kind != STOP || !order.isOpen() || stock.phase != CONTINUOUS) {
                return false;
            }
            return order.isBuy ? stock.last >= order.level : stock.last <= order.level;
        }

        private static void match(Hall hall, Order order) {
            if (order.kind == STOP) {
                order.kind = MARKET;
            }
            Stock stock = hall.stocks[order.stock];
            int own = worstPriceFor(hall, order);
            for (int step = 0; step < MAX_STEPS && order.left > 0; step++) {
                Order other = bestAgainst(hall, order);
                if (other == null) {
                    break;
                }
                int price = hall.priceAt(other);
                if (order.isBuy ? price > own : price < own) {
                    break;
                }
                if (other.trader == order.trader) {
                    hall.washes++;
                    order.drop();
                    break;
                }
                if (stock.isOutsideBand(price)) {
                    stock.phase = HALTED;
                    break;
                }
                tradeWith(hall, order, other, price);
            }
            finish(hall, order);
        }

        // A peg without a price gets one that nothing can meet.
        private static int worstPriceFor(Hall hall, Order order) {
            if (order.kind == MARKET) {
                return order.isBuy ? Integer.MAX_VALUE : 0;
            }
            int price = hall.priceAt(order);
            return price == 0 && !order.isBuy ? Integer.MAX_VALUE : price;
        }

        private static Order bestAgainst(Hall hall, Order order) {
            boolean isBuy = !order.isBuy;
            int anchor = hall.bestShown(order.stock, isBuy);
            Order best = null;
            int bestPrice = 0;
            for (int i = 0; i < hall.orderCount; i++) {
                Order other = hall.orders[i];
                if (!other.rests(order.stock, isBuy)) {
                    continue;
                }
                int price = other.priceBy(anchor);
                if (price > 0 && (best == null || isBetter(price, bestPrice, isBuy)
                        || price == bestPrice && goesAhead(other, best, order.venue))) {
                    best = other;
                    bestPrice = price;
                }
            }
            return best;
        }

        private static boolean isBetter(int price, int than, boolean isBuy) {
            return isBuy ? price > than : price < than;
        }

        // Of two at the same price.
        private static boolean goesAhead(Order one, Order two, int venue) {
            if (one.venue != two.venue) {
                return one.venue == venue;
            }
            if (one.shows() != two.shows()) {
                return one.shows();
            }
            return one.turn < two.turn;
        }

        private static void tradeWith(Hall hall, Order order, Order other, int price) {
            int quantity = Math.min(order.left, other.shownPart());
            if (order.isBuy) {
                hall.trade(order, other, price, quantity);
            } else {
                hall.trade(other, order, price, quantity);
            }
            if (other.kind == ICEBERG) {
                other.part -= quantity;
                if (other.part == 0 && other.left > 0) {
                    other.showAnew();
                    other.turn = hall.nextTurn();
                }
            }
        }

        private static void finish(Hall hall, Order order) {
            if (order.left == 0) {
                return;
            }
            if (order.kind == MARKET) {
                order.drop();
            } else {
                rest(hall, order);
            }
        }

        private static void rest(Hall hall, Order order) {
            order.showAnew();
            order.turn = hall.nextTurn();
        }
    }

    /** How an auction trades. */
    private static final class Auction {
        private Auction() {
        }

        static int finish(Hall hall, int number) {
            Stock stock = hall.stocks[number];
            int price = findPrice(hall, number);
            int traded = price == 0 ? 0 : tradeAll(hall, number, price);
            stock.phase = CONTINUOUS;
            stock.reference = stock.last;
            return traded;
        }

        // 0 if nothing can be traded.
        private static int findPrice(Hall hall, int stock) {
            int last = hall.stocks[stock].last;
            int best = 0;
            int most = 0;
            int leastGap = 0;
            for (int i = 0; i < hall.orderCount; i++) {
                Order order = hall.orders[i];
                if (!order.restsAndShows(stock, order.isBuy)) {
                    continue;
                }
                int bought = volume(hall, stock, true, order.level);
                int sold = volume(hall, stock, false, order.level);
                int traded = Math.min(bought, sold);
                int gap = Math.abs(bought - sold);
                boolean isMore = traded > most || traded == most && gap < leastGap;
                boolean isEqual = traded == most && gap == leastGap;
                if (traded > 0 && (isMore || isEqual && isNearer(order.level, best, last))) {
                    best = order.level;
                    most = traded;
                    leastGap = gap;
                }
            }
            return best;
        }

        private static boolean isNearer(int price, int than, int last) {
            int far = Math.abs(price - last);
            int farThan = Math.abs(than - last);
            return far < farThan || far == farThan && price < than;
        }

        private static int volume(Hall hall, int stock, boolean isBuy, int price) {
            int sum = 0;
            for (int i = 0; i < hall.orderCount; i++) {
                if (takesPart(hall.orders[i], stock, isBuy, price)) {
                    sum += hall.orders[i].left;
                }
            }
            return sum;
        }

        private static boolean takesPart(Order order, int stock, boolean isBuy, int price) {
            return order.restsAndShows(stock, isBuy) && (isBuy ? order.level >= price : order.level <= price);
        }

        // Each trade ends one of the two orders, so that the orders bound the steps.
        private static int tradeAll(Hall hall, int stock, int price) {
            int traded = 0;
            for (int step = 0; step < MAX_ORDERS; step++) {
                Order buy = nextOf(hall, stock, true, price);
                Order sell = nextOf(hall, stock, false, price);
                if (buy == null || sell == null) {
                    break;
                }
                int quantity = Math.min(buy.left, sell.left);
                hall.trade(buy, sell, price, quantity);
                buy.showAnew();
                sell.showAnew();
                if (buy.trader == sell.trader) {
                    hall.washes++;
                }
                traded += quantity;
            }
            return traded;
        }

        private static Order nextOf(Hall hall, int stock, boolean isBuy, int price) {
            Order next = null;
            for (int i = 0; i < hall.orderCount; i++) {
                Order order = hall.orders[i];
                if (takesPart(order, stock, isBuy, price) && (next == null || goesAhead(order, next))) {
                    next = order;
                }
            }
            return next;
        }

        // Of two on the same side.
        private static boolean goesAhead(Order one, Order two) {
            if (one.level != two.level) {
                return one.isBuy ? one.level > two.level : one.level < two.level;
            }
            return one.turn < two.turn;
        }
    }

    /** What is done as a day ends: settlement, then margin. */
    private static final class DayEnd {
        private DayEnd() {
        }

        static int close(Hall hall) {
            for (int stock = 0; stock < hall.stockCount; stock++) {
                settle(hall, stock);
            }
            int called = lookAtMargin(hall);
            for (int stock = 0; stock < hall.stockCount; stock++) {
                hall.stocks[stock].reference = hall.stocks[stock].last;
            }
            for (int i = 0; i < hall.traderCount; i++) {
                hall.traders[i].startDay();
            }
            hall.today++;
            return called;
        }

        private static void settle(Hall hall, int stock) {
            int age = 1 + collectDue(hall, stock);
            int delivered = deliver(hall, stock);
            receive(hall, stock, delivered);
            if (age >= AGE_OF_BUY_IN) {
                buyIn(hall, stock);
            } else {
                putOff(hall, stock, age);
            }
        }

        // Moves what is due to the nets; answers the age of the oldest, those of trades being 0.
        private static int collectDue(Hall hall, int stock) {
            int row = Math.floorMod(hall.today, DUE_ROWS);
            int oldest = 0;
            for (int i = 0; i < hall.traderCount; i++) {
                Trader trader = hall.traders[i];
                hall.nets[i] = trader.due[row][stock] + trader.late[stock];
                oldest = Math.max(oldest, trader.lateAge[stock]);
                trader.due[row][stock] = 0;
                trader.late[stock] = 0;
                trader.lateAge[stock] = 0;
            }
            return oldest;
        }

        private static int deliver(Hall hall, int stock) {
            int delivered = 0;
            for (int i = 0; i < hall.traderCount; i++) {
                if (hall.nets[i] < 0) {
                    Trader trader = hall.traders[i];
                    int part = Math.min(-hall.nets[i], trader.deliverable(stock));
                    trader.ready[stock] -= part;
                    hall.nets[i] += part;
                    hall.lacked -= hall.nets[i];
                    delivered += part;
                }
            }
            return delivered;
        }

        private static void receive(Hall hall, int stock, int delivered) {
            int rest = delivered;
            for (int i = 0; i < hall.traderCount; i++) {
                if (hall.nets[i] > 0) {
                    int part = Math.min(hall.nets[i], rest);
                    hall.traders[i].ready[stock] += part;
                    hall.nets[i] -= part;
                    rest -= part;
                }
            }
        }

        private static void putOff(Hall hall, int stock, int age) {
            for (int i = 0; i < hall.traderCount; i++) {
                if (hall.nets[i] != 0) {
                    hall.traders[i].late[stock] = hall.nets[i];
                    hall.traders[i].lateAge[stock] = age;
                }
            }
        }

        private static void buyIn(Hall hall, int number) {
            Stock stock = hall.stocks[number];
            long price = 11L * stock.last / 10;
            for (int i = 0; i < hall.traderCount; i++) {
                int net = hall.nets[i];
                hall.traders[i].cash += price * net;
                hall.traders[i].held[number] -= net;
                hall.houseCash -= price * net;
                stock.house += net;
            }
        }

        private static int lookAtMargin(Hall hall) {
            int called = 0;
            for (int i = 0; i < hall.traderCount; i++) {
                Trader trader = hall.traders[i];
                boolean isShort = !trader.out && hall.worthOf(trader) < hall.marginOf(trader);
                if (isShort && trader.called) {
                    setDefault(hall, i);
                } else {
                    trader.called = isShort;
                }
                if (isShort) {
                    called++;
                }
            }
            return called;
        }

        private static void setDefault(Hall hall, int number) {
            Trader trader = hall.traders[number];
            hall.cancelAllOf(number);
            trader.cash = hall.worthOf(trader);
            for (int stock = 0; stock < hall.stockCount; stock++) {
                hall.stocks[stock].house += trader.held[stock];
                trader.clearStock(stock);
            }
            trader.out = true;
            trader.called = false;
            if (trader.cash < 0) {
                shareOut(hall, payFromFund(hall, -trader.cash));
            } else {
                hall.houseCash += trader.cash;
            }
            trader.cash = 0;
        }

        // Answers what the fund could not pay: it may be below 0 itself.
        private static long payFromFund(Hall hall, long loss) {
            long paid = Math.min(loss, Math.max(0, hall.houseCash));
            hall.houseCash -= paid;
            return loss - paid;
        }

        private static void shareOut(Hall hall, long loss) {
            int payers = 0;
            for (int i = 0; i < hall.traderCount; i++) {
                if (!hall.traders[i].out) {
                    payers++;
                }
            }
            if (payers == 0) {
                return;
            }
            long part = loss / payers;
            long over = loss % payers;
            for (int i = 0; i < hall.traderCount; i++) {
                if (!hall.traders[i].out) {
                    hall.traders[i].cash -= part + (over > 0 ? 1 : 0);
                    over--;
                }
            }
        }
    }
}
