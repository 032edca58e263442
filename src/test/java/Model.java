import java.util.ArrayList;
import java.util.Comparator;
import java.util.List;
import java.util.NoSuchElementException;
import java.util.TreeMap;

/**
 * The market once more, told as the document tells it and by other means than Markethall: sorted
 * lists, one object an obligation, nothing summed up. ModelTest compares the two.
 */
final class Model {
    static final class Share {
        int last, reference, rate, band, pool, house, issued;
        char phase = 'c';
        boolean split;
    }

    static final class Person {
        long cash;
        boolean out, called, traded, reported;
        int cancels;
        int[] position = new int[3], settled = new int[3], located = new int[3];
    }

    static final class Ticket {
        int number, trader, stock, venue, left, price, peak, offset, trigger, display;
        long turn;
        boolean buy;
        String kind;
        char state = 'o';

        boolean visible() {
            return state == 'o' && (kind.equals("limit") || kind.equals("iceberg"));
        }

        boolean rests() {
            return state == 'o' && (visible() || kind.equals("peg"));
        }
    }

    record Duty(int trader, int stock, int get, int dueDay, int age) {
    }

    record Deal(int price, int quantity, int buyer, int seller) {
    }

    final List<Share> shares = new ArrayList<>();
    final List<Person> people = new ArrayList<>();
    final List<Ticket> tickets = new ArrayList<>();
    final List<Deal> deals = new ArrayList<>();
    List<Duty> duties = new ArrayList<>();
    long fund;
    int day, wash, spoof, fails;
    long turns;
    char refused = '?';

    // Checks, in the order of the document.

    private void needTrader(int trader) {
        if (trader < 0 || trader >= people.size()) throw new IndexOutOfBoundsException();
    }

    private void needStock(int stock) {
        if (stock < 0 || stock >= shares.size()) throw new IndexOutOfBoundsException();
    }

    private void needOrder(int order) {
        if (order < 0 || order >= tickets.size()) throw new IndexOutOfBoundsException();
    }

    private static void within(long number, long least, long most) {
        if (number < least || number > most) throw new IllegalArgumentException();
    }

    int addStock(int price, int rate, int band, int pool) {
        within(price, 1, 9999);
        within(rate, 0, 100);
        within(band, 1, 100);
        within(pool, 0, 9999);
        if (shares.size() == 3) throw new IllegalStateException();
        Share s = new Share();
        s.last = price;
        s.reference = price;
        s.rate = rate;
        s.band = band;
        s.pool = pool;
        shares.add(s);
        return shares.size() - 1;
    }

    int addTrader(int cash) {
        within(cash, 0, 1000000);
        if (people.size() == 6) throw new IllegalStateException();
        Person p = new Person();
        p.cash = cash;
        people.add(p);
        return people.size() - 1;
    }

    int issue(int trader, int stock, int count) {
        needTrader(trader);
        needStock(stock);
        within(count, 1, 9999);
        Person p = people.get(trader);
        if (p.out) throw new UnsupportedOperationException();
        p.position[stock] += count;
        p.settled[stock] += count;
        shares.get(stock).issued += count;
        return p.position[stock];
    }

    int locate(int trader, int stock, int count) {
        needTrader(trader);
        needStock(stock);
        within(count, 1, 9999);
        Person p = people.get(trader);
        Share s = shares.get(stock);
        if (p.out || s.pool < count) throw new UnsupportedOperationException();
        p.located[stock] += count;
        s.pool -= count;
        return s.pool;
    }

    long endow(int cash) {
        within(cash, 1, 1000000);
        return fund += cash;
    }

    int send(String kind, int trader, int stock, int venue, boolean buy, int quantity, int level, int peak) {
        needTrader(trader);
        needStock(stock);
        within(venue, 0, 1);
        within(quantity, 1, 1000);
        if (kind.equals("limit") || kind.equals("iceberg") || kind.equals("stop")) within(level, 1, 9999);
        if (kind.equals("iceberg")) within(peak, 1, 1000);
        if (kind.equals("peg")) within(level, 0, 99);
        if (tickets.size() == 100) throw new IllegalStateException();
        Person p = people.get(trader);
        Share s = shares.get(stock);
        refused = '-';
        if (p.out) refused = 'k';
        else if (kind.equals("market") && s.phase != 'c') refused = 'c';
        else if (!buy) {
            int sum = quantity;
            for (Ticket t : tickets) {
                if (t.state == 'o' && t.trader == trader && t.stock == stock && !t.buy) sum += t.left;
            }
            if (sum > Math.max(p.position[stock], 0) + p.located[stock]) refused = 'b';
        }
        if (refused != '-') return -1;
        Ticket t = new Ticket();
        t.number = tickets.size();
        t.trader = trader;
        t.stock = stock;
        t.venue = venue;
        t.left = quantity;
        t.buy = buy;
        t.kind = kind;
        t.peak = peak;
        if (kind.equals("peg")) t.offset = level;
        else if (kind.equals("stop")) t.trigger = level;
        else t.price = level;
        Integer own = kind.equals("peg") ? pegPrice(t) : kind.equals("market") ? null : (Integer) t.price;
        tickets.add(t);
        if (kind.equals("stop")) {
            if (s.phase == 'c' && (buy ? s.last >= t.trigger : s.last <= t.trigger)) {
                fire(t);
                stops(stock);
            }
        } else if (s.phase == 'c') {
            match(t, own, !kind.equals("market"));
            stops(stock);
        } else {
            layDown(t);
        }
        return t.number;
    }

    private void fire(Ticket t) {
        t.kind = "market";
        match(t, null, false);
    }

    private void stops(int stock) {
        Share s = shares.get(stock);
        boolean again = true;
        while (again && s.phase == 'c') {
            again = false;
            for (Ticket t : tickets) {
                if (t.stock == stock && t.state == 'o' && t.kind.equals("stop")
                        && (t.buy ? s.last >= t.trigger : s.last <= t.trigger)) {
                    fire(t);
                    again = true;
                    break;
                }
            }
        }
    }

    private Integer pegPrice(Ticket t) {
        List<Integer> prices = new ArrayList<>();
        for (Ticket o : tickets) {
            if (o.visible() && o.stock == t.stock && o.buy == t.buy) prices.add(o.price);
        }
        if (prices.isEmpty()) return null;
        prices.sort(Comparator.naturalOrder());
        int price = t.buy ? prices.get(prices.size() - 1) - t.offset : prices.get(0) + t.offset;
        return price >= 1 ? price : null;
    }

    private Integer restPrice(Ticket t) {
        if (!t.rests()) return null;
        return t.kind.equals("peg") ? pegPrice(t) : (Integer) t.price;
    }

    private void match(Ticket t, Integer own, boolean priced) {
        Share s = shares.get(t.stock);
        while (t.left > 0) {
            List<Ticket> others = new ArrayList<>();
            for (Ticket o : tickets) {
                if (o != t && o.stock == t.stock && o.buy != t.buy && restPrice(o) != null) others.add(o);
            }
            Comparator<Ticket> byPrice = Comparator.comparing(o -> t.buy ? restPrice(o) : -restPrice(o));
            others.sort(byPrice.thenComparing(o -> o.venue == t.venue ? 0 : 1)
                    .thenComparing(o -> o.visible() ? 0 : 1).thenComparing(o -> o.turn));
            if (others.isEmpty()) break;
            Ticket o = others.get(0);
            int price = restPrice(o);
            if (priced && (own == null || (t.buy ? price > own : price < own))) break;
            if (o.trader == t.trader) {
                t.left = 0;
                t.state = 'x';
                wash++;
                break;
            }
            if (100 * Math.abs(price - s.reference) > s.band * s.reference) {
                s.phase = 'h';
                break;
            }
            int quantity = Math.min(t.left, o.kind.equals("iceberg") ? o.display : o.left);
            deal(t.buy ? t : o, t.buy ? o : t, price, quantity);
            if (o.kind.equals("iceberg")) {
                o.display -= quantity;
                if (o.display == 0 && o.left > 0) {
                    o.display = Math.min(o.peak, o.left);
                    o.turn = turns++;
                }
            }
        }
        if (t.left > 0) {
            if (t.kind.equals("market")) {
                t.left = 0;
                t.state = 'x';
            } else {
                layDown(t);
            }
        }
    }

    private void layDown(Ticket t) {
        t.turn = turns++;
        t.display = Math.min(t.peak, t.left);
    }

    private void deal(Ticket buy, Ticket sell, int price, int quantity) {
        for (Ticket t : List.of(buy, sell)) {
            t.left -= quantity;
            if (t.left == 0) t.state = 'd';
            people.get(t.trader).traded = true;
        }
        Person b = people.get(buy.trader);
        Person v = people.get(sell.trader);
        b.cash -= (long) price * quantity;
        v.cash += (long) price * quantity;
        b.position[buy.stock] += quantity;
        v.position[buy.stock] -= quantity;
        duties.add(new Duty(buy.trader, buy.stock, quantity, day + 2, 0));
        duties.add(new Duty(sell.trader, buy.stock, -quantity, day + 2, 0));
        shares.get(buy.stock).last = price;
        deals.add(new Deal(price, quantity, buy.trader, sell.trader));
    }

    char refused() {
        if (refused == '?') throw new NoSuchElementException();
        return refused;
    }

    int cancel(int order) {
        needOrder(order);
        Ticket t = tickets.get(order);
        if (t.state != 'o') throw new UnsupportedOperationException();
        int left = t.left;
        t.left = 0;
        t.state = 'x';
        Person p = people.get(t.trader);
        p.cancels++;
        if (p.cancels > 4 && !p.traded && !p.reported) {
            p.reported = true;
            spoof++;
        }
        return left;
    }

    private int cancelAll(int trader) {
        int count = 0;
        for (Ticket t : tickets) {
            if (t.trader == trader && t.state == 'o') {
                t.left = 0;
                t.state = 'x';
                count++;
            }
        }
        return count;
    }

    int kill(int trader) {
        needTrader(trader);
        if (people.get(trader).out) throw new UnsupportedOperationException();
        people.get(trader).out = true;
        return cancelAll(trader);
    }

    char openAuction(int stock) {
        needStock(stock);
        char before = shares.get(stock).phase;
        shares.get(stock).phase = 'a';
        return before;
    }

    int uncross(int stock) {
        needStock(stock);
        Share s = shares.get(stock);
        if (s.phase != 'a') throw new UnsupportedOperationException();
        List<Ticket> all = new ArrayList<>();
        for (Ticket t : tickets) {
            if (t.visible() && t.stock == stock) all.add(t);
        }
        TreeMap<Integer, int[]> volumes = new TreeMap<>();
        for (Ticket t : all) {
            int[] sums = new int[2];
            for (Ticket o : all) {
                if (o.buy && o.price >= t.price) sums[0] += o.left;
                if (!o.buy && o.price <= t.price) sums[1] += o.left;
            }
            volumes.put(t.price, sums);
        }
        List<Integer> prices = new ArrayList<>(volumes.keySet());
        Comparator<Integer> most = Comparator.comparing(p -> -Math.min(volumes.get(p)[0], volumes.get(p)[1]));
        prices.sort(most.thenComparing(p -> Math.abs(volumes.get(p)[0] - volumes.get(p)[1]))
                .thenComparing(p -> Math.abs(p - s.last)).thenComparing(p -> p));
        int traded = 0;
        if (!prices.isEmpty()) {
            int price = prices.get(0);
            int toTrade = Math.min(volumes.get(price)[0], volumes.get(price)[1]);
            List<Ticket> buys = new ArrayList<>(all);
            buys.removeIf(t -> !t.buy || t.price < price);
            buys.sort(Comparator.<Ticket, Integer>comparing(t -> -t.price).thenComparing(t -> t.turn));
            List<Ticket> sells = new ArrayList<>(all);
            sells.removeIf(t -> t.buy || t.price > price);
            sells.sort(Comparator.<Ticket, Integer>comparing(t -> t.price).thenComparing(t -> t.turn));
            int b = 0;
            int v = 0;
            while (traded < toTrade) {
                Ticket buy = buys.get(b);
                Ticket sell = sells.get(v);
                int quantity = Math.min(toTrade - traded, Math.min(buy.left, sell.left));
                deal(buy, sell, price, quantity);
                if (buy.trader == sell.trader) wash++;
                buy.display = Math.min(buy.peak, buy.left);
                sell.display = Math.min(sell.peak, sell.left);
                traded += quantity;
                if (buy.left == 0) b++;
                if (sell.left == 0) v++;
            }
        }
        s.phase = 'c';
        s.reference = s.last;
        stops(stock);
        return traded;
    }

    char phaseOf(int stock) {
        needStock(stock);
        return shares.get(stock).phase;
    }

    int endDay() {
        for (int stock = 0; stock < shares.size(); stock++) settle(stock);
        int count = 0;
        for (int i = 0; i < people.size(); i++) {
            Person p = people.get(i);
            boolean before = p.called;
            p.called = false;
            if (p.out || equity(i) >= need(i)) continue;
            count++;
            if (before) fall(i);
            else p.called = true;
        }
        for (Share s : shares) s.reference = s.last;
        for (Person p : people) {
            p.cancels = 0;
            p.traded = false;
            p.reported = false;
        }
        day++;
        return count;
    }

    private void settle(int stock) {
        Share s = shares.get(stock);
        List<Duty> due = new ArrayList<>();
        for (Duty d : duties) {
            if (d.stock == stock && d.dueDay <= day) due.add(d);
        }
        duties.removeAll(due);
        int oldest = 0;
        int[] net = new int[people.size()];
        for (Duty d : due) {
            oldest = Math.max(oldest, d.age);
            net[d.trader] += d.get;
        }
        int pot = 0;
        for (int i = 0; i < net.length; i++) {
            Person p = people.get(i);
            while (net[i] < 0 && p.settled[stock] + p.located[stock] > 0) {
                p.settled[stock]--;
                net[i]++;
                pot++;
            }
            if (net[i] < 0) fails += -net[i];
        }
        for (int i = 0; i < net.length; i++) {
            while (net[i] > 0 && pot > 0) {
                people.get(i).settled[stock]++;
                net[i]--;
                pot--;
            }
        }
        int price = s.last * 11 / 10;
        for (int i = 0; i < net.length; i++) {
            if (net[i] == 0) continue;
            if (oldest == 2) {
                people.get(i).cash += (long) price * net[i];
                people.get(i).position[stock] -= net[i];
                fund -= (long) price * net[i];
                s.house += net[i];
            } else {
                duties.add(new Duty(i, stock, net[i], day + 1, oldest + 1));
            }
        }
    }

    private void fall(int trader) {
        Person p = people.get(trader);
        cancelAll(trader);
        p.out = true;
        duties.removeIf(d -> d.trader == trader);
        for (int stock = 0; stock < shares.size(); stock++) {
            shares.get(stock).house += p.position[stock];
            p.cash += (long) p.position[stock] * shares.get(stock).last;
        }
        p.position = new int[3];
        p.settled = new int[3];
        p.located = new int[3];
        if (p.cash >= 0) {
            fund += p.cash;
        } else {
            while (p.cash < 0 && fund > 0) {
                long step = Math.min(-p.cash, fund);
                p.cash += step;
                fund -= step;
            }
            List<Person> others = new ArrayList<>(people);
            others.removeIf(o -> o.out);
            if (!others.isEmpty()) {
                long each = -p.cash / others.size();
                long more = -p.cash - each * others.size();
                for (Person o : others) {
                    o.cash -= each;
                    if (more-- > 0) o.cash--;
                }
            }
        }
        p.cash = 0;
    }

    int split(int stock, int by) {
        needStock(stock);
        within(by, 2, 5);
        Share s = shares.get(stock);
        if (s.split) throw new UnsupportedOperationException();
        s.split = true;
        s.last = Math.max(s.last / by, 1);
        s.reference = Math.max(s.reference / by, 1);
        s.pool *= by;
        s.house *= by;
        s.issued *= by;
        for (Person p : people) {
            p.position[stock] *= by;
            p.settled[stock] *= by;
            p.located[stock] *= by;
        }
        List<Duty> after = new ArrayList<>();
        for (Duty d : duties) {
            after.add(d.stock == stock ? new Duty(d.trader, stock, d.get * by, d.dueDay, d.age) : d);
        }
        duties = after;
        for (Ticket t : tickets) {
            if (t.stock != stock) continue;
            t.left *= by;
            t.peak *= by;
            t.display *= by;
            t.offset /= by;
            t.price = Math.max(t.price / by, 1);
            t.trigger = Math.max(t.trigger / by, 1);
        }
        return s.last;
    }

    long dividend(int stock, int amount) {
        needStock(stock);
        within(amount, 1, 99);
        long sum = 0;
        for (Person p : people) {
            p.cash += (long) p.position[stock] * amount;
            sum += (long) p.position[stock] * amount;
        }
        fund += (long) shares.get(stock).house * amount;
        return sum + (long) shares.get(stock).house * amount;
    }

    // What is asked.

    int lastPrice(int stock) {
        needStock(stock);
        return shares.get(stock).last;
    }

    int best(int stock, boolean buy) {
        needStock(stock);
        Integer best = null;
        for (Ticket t : tickets) {
            if (t.visible() && t.stock == stock && t.buy == buy) {
                best = best == null ? (Integer) t.price : (Integer) (buy ? Math.max(best, t.price) : Math.min(best, t.price));
            }
        }
        if (best == null) throw new NoSuchElementException();
        return best;
    }

    int shown(int stock, boolean buy, int price) {
        needStock(stock);
        int sum = 0;
        for (Ticket t : tickets) {
            if (t.visible() && t.stock == stock && t.buy == buy && t.price == price) {
                sum += t.kind.equals("iceberg") ? t.display : t.left;
            }
        }
        return sum;
    }

    Deal deal(int back) {
        if (back < 0 || back >= Math.min(150, deals.size())) throw new IndexOutOfBoundsException();
        return deals.get(deals.size() - 1 - back);
    }

    char stateOf(int order) {
        needOrder(order);
        return tickets.get(order).state;
    }

    int leftOf(int order) {
        needOrder(order);
        return tickets.get(order).left;
    }

    int priceOf(int order) {
        needOrder(order);
        Integer price = restPrice(tickets.get(order));
        if (price == null) throw new NoSuchElementException();
        return price;
    }

    Person person(int trader) {
        needTrader(trader);
        return people.get(trader);
    }

    int position(int trader, int stock) {
        needTrader(trader);
        needStock(stock);
        return people.get(trader).position[stock];
    }

    int settled(int trader, int stock) {
        needTrader(trader);
        needStock(stock);
        return people.get(trader).settled[stock];
    }

    int owed(int trader, int stock) {
        needTrader(trader);
        needStock(stock);
        int sum = 0;
        for (Duty d : duties) {
            if (d.trader == trader && d.stock == stock) sum += d.get;
        }
        return sum;
    }

    int houseOf(int stock) {
        needStock(stock);
        return shares.get(stock).house;
    }

    long equity(int trader) {
        long sum = person(trader).cash;
        for (int stock = 0; stock < shares.size(); stock++) {
            sum += (long) people.get(trader).position[stock] * shares.get(stock).last;
        }
        return sum;
    }

    long need(int trader) {
        Person p = person(trader);
        long sum = 0;
        for (int stock = 0; stock < shares.size(); stock++) {
            Share s = shares.get(stock);
            sum += Math.abs(p.position[stock]) * (long) s.last * s.rate / 100;
        }
        return sum;
    }

    int alarms(char kind) {
        if (kind == 'w') return wash;
        if (kind == 's') return spoof;
        throw new IllegalArgumentException();
    }

    float filledShare() {
        if (tickets.isEmpty()) throw new NoSuchElementException();
        int done = 0;
        for (Ticket t : tickets) if (t.state == 'd') done++;
        return (float) done / (float) tickets.size();
    }

    double meanPrice() {
        if (deals.isEmpty()) throw new NoSuchElementException();
        long values = 0;
        long quantities = 0;
        for (int i = 0; i < Math.min(150, deals.size()); i++) {
            values += (long) deal(i).price * deal(i).quantity;
            quantities += deal(i).quantity;
        }
        return (double) values / (double) quantities;
    }
}
