/**
 * The sentences of the Terms on the end of a day, on corporate actions and on what is not thrown away, each on both
 * sides of its boundary.
 */
public final class BoundaryDaysTest {
    public static void main(String[] args) {
        twoDaysLater();
        settledAndLocatedTogether();
        belowNought();
        byTheirNumbers();
        netsOfADay();
        threeDaysOld();
        oldestOfTheStock();
        elevenTenths();
        houseTakesTheDifference();
        fundBelowNought();
        equityLessThanNeed();
        needIsCut();
        calledTheDayBefore();
        whoIsOutIsNotLookedAt();
        cashBehindADefault();
        fundPaysAsFarAsItGoes();
        othersPay();
        withoutAny();
        oneByOne();
        allIsGone();
        obligationsAreGone();
        splitsOfObligations();
        splitsOfPrices();
        splitsOfShares();
        splitOnce();
        dividendOfLessThanNought();
        Check.end();
    }

    private static Markethall hall(int price, int rate, int... cash) {
        Markethall x = new Markethall();
        x.addStock(price, rate, 100, 9999);
        for (int each : cash) {
            x.addTrader(each);
        }
        return x;
    }

    // The first sells to the second.
    private static void deal(Markethall x, int seller, int buyer, int quantity, int price) {
        x.limit(seller, 0, 0, false, quantity, price);
        x.market(buyer, 0, 0, true, quantity);
    }

    private static int endDays(Markethall x, int count) {
        int last = 0;
        for (int i = 0; i < count; i++) {
            last = x.endDay();
        }
        return last;
    }

    // "due two days later", on any day.
    private static void twoDaysLater() {
        for (int day = 0; day < 9; day++) {
            Markethall x = hall(10, 0, 1000, 1000);
            x.issue(0, 0, 50);
            endDays(x, day);
            deal(x, 0, 1, 20, 10);
            endDays(x, 2);
            Check.due("two days end behind a trade of day " + day, x.settled(1, 0), 0);
            Check.due("owed", x.owed(1, 0), 20);
            x.endDay();
            Check.due("a third one", x.settled(1, 0), 20);
            Check.due("owed", x.owed(1, 0), 0);
            Check.due("delivered", x.settled(0, 0), 30);
            Check.due("day", x.day(), day + 3);
        }
        // A trade each day: on each evening that of two days before alone is settled.
        Markethall y = hall(10, 0, 1000, 1000);
        y.issue(0, 0, 500);
        for (int day = 0; day < 9; day++) {
            deal(y, 0, 1, day + 1, 10);
            y.endDay();
            Check.due("of day " + (day - 2), y.settled(1, 0), day < 2 ? 0 : (day - 1) * day / 2);
            Check.due("owed", y.owed(1, 0), day < 1 ? 1 : 2 * day + 1);
        }
    }

    // "as much of it as settled shares and located shares together give": 4 and 5 are 9.
    private static void settledAndLocatedTogether() {
        for (int sold = 8; sold <= 11; sold++) {
            Markethall x = hall(10, 0, 1000, 1000);
            x.issue(0, 0, 4);
            x.locate(0, 0, 5);
            deal(x, 0, 1, 8, 10);
            if (sold > 8) {
                deal(x, 0, 1, sold - 8, 10);
            }
            endDays(x, 3);
            int given = Math.min(sold, 9);
            Check.due("settled of who sold " + sold, x.settled(0, 0), 4 - given);
            Check.due("got", x.settled(1, 0), given);
            Check.due("lacks", x.owed(0, 0), given - sold);
            Check.due("lacked", x.owed(1, 0), sold - given);
            Check.due("fails", x.fails(), sold - given);
        }
    }

    // "the settled ones becoming fewer, also below 0": what is below 0 takes from the located ones the next time.
    private static void belowNought() {
        Markethall x = hall(10, 0, 1000, 1000);
        x.locate(0, 0, 5);
        deal(x, 0, 1, 4, 10);
        endDays(x, 3);
        Check.due("settled", x.settled(0, 0), -4);
        deal(x, 0, 1, 3, 10);
        endDays(x, 3);
        Check.due("1 more", x.settled(0, 0), -5);
        Check.due("2 lack", x.fails(), 2);
        x.endDay();
        Check.due("none more", x.settled(0, 0), -5);
        Check.due("2 lack again", x.fails(), 4);
        deal(x, 1, 0, 5, 10);
        x.endDay();
        Check.due("bought in", x.owed(0, 0), 5);
        Check.due("2 lack for the last time", x.fails(), 6);
        endDays(x, 2);
        Check.due("got", x.settled(0, 0), 0);
    }

    // "Those with a net below 0 deliver, by their numbers"; "goes to those with a net above 0, by their numbers".
    private static void byTheirNumbers() {
        for (int located = 9; located <= 16; located++) {
            Markethall x = hall(10, 0, 1000, 1000, 1000, 1000);
            x.locate(1, 0, 8);
            deal(x, 1, 3, 6, 10);
            deal(x, 1, 0, 5, 10);
            deal(x, 1, 2, 5, 10);
            if (located > 8) {
                x.locate(1, 0, located - 8);
            }
            endDays(x, 3);
            Check.due("the lowest first, of " + located, x.settled(0, 0), 5);
            Check.due("then 2", x.settled(2, 0), Math.min(5, located - 5));
            Check.due("then 3", x.settled(3, 0), Math.max(0, located - 10));
            Check.due("owed to 2", x.owed(2, 0), Math.max(0, 10 - located));
            Check.due("owed to 3", x.owed(3, 0), Math.min(6, 16 - located));
            Check.due("owed by 1", x.owed(1, 0), located - 16);
            Check.due("fails", x.fails(), 16 - located);
        }
        Markethall y = hall(10, 0, 1000, 1000, 1000);
        y.locate(0, 0, 3);
        y.locate(1, 0, 3);
        deal(y, 0, 2, 3, 10);
        deal(y, 1, 2, 3, 10);
        deal(y, 0, 2, 2, 10);
        endDays(y, 3);
        Check.due("each by what it has", y.settled(0, 0), -3);
        Check.due("each by what it has", y.settled(1, 0), -3);
        Check.due("together", y.settled(2, 0), 6);
        Check.due("0 lacks", y.owed(0, 0), -2);
        Check.due("1 does not", y.owed(1, 0), 0);
    }

    // "what is to be got less what is to be delivered is the net": a net of 0 does neither.
    private static void netsOfADay() {
        Markethall x = hall(10, 0, 1000, 1000, 1000);
        x.locate(0, 0, 10);
        deal(x, 0, 1, 10, 10);
        deal(x, 1, 2, 10, 10);
        endDays(x, 3);
        Check.due("1 passes on", x.settled(1, 0), 0);
        Check.due("2 has got", x.settled(2, 0), 10);
        Check.due("no fails", x.fails(), 0);
        // The same, but for a day between: 1 has to deliver what it gets on the same evening a day too late.
        Markethall y = hall(10, 0, 1000, 1000, 1000);
        y.issue(0, 0, 10);
        deal(y, 0, 1, 10, 10);
        y.endDay();
        deal(y, 1, 2, 10, 10);
        endDays(y, 2);
        Check.due("got", y.settled(1, 0), 10);
        y.endDay();
        Check.due("passed on the day behind", y.settled(2, 0), 10);
        Check.due("no fails", y.fails(), 0);
    }

    // "If these would be 3 days old, they are bought in instead".
    private static void threeDaysOld() {
        for (int days = 2; days <= 6; days++) {
            Markethall x = hall(10, 0, 1000, 1000);
            x.locate(0, 0, 5);
            deal(x, 0, 1, 5, 10);
            deal(x, 0, 1, 3, 10);
            endDays(x, days);
            Check.due("lacks behind day " + days, x.owed(0, 0), days < 3 ? -8 : days < 5 ? -3 : 0);
            Check.due("fails behind day " + days, x.fails(), 3 * Math.max(0, Math.min(days, 5) - 2));
            Check.due("position", x.position(0, 0), days < 5 ? -8 : -5);
            Check.due("cash of who lacks", x.cashOf(0), 1080L - (days < 5 ? 0 : 33));
            Check.due("cash of who lacked", x.cashOf(1), 920L + (days < 5 ? 0 : 33));
            Check.due("no trade", x.trades(), 2);
            Check.due("sound", x.isSound(), true);
        }
        // What is settled on the last evening is not bought in.
        Markethall y = hall(10, 0, 1000, 1000);
        y.locate(0, 0, 5);
        deal(y, 0, 1, 5, 10);
        deal(y, 0, 1, 3, 10);
        endDays(y, 4);
        y.locate(0, 0, 2);
        y.endDay();
        Check.due("2 were delivered", y.settled(1, 0), 7);
        Check.due("1 was bought in", y.position(1, 0), 7);
        Check.due("at 11", y.cashOf(0), 1080L - 11);
        Check.due("fails", y.fails(), 7);
    }

    // "one day older than the oldest that was due of the stock, where those of trades are 0 days old".
    private static void oldestOfTheStock() {
        Markethall x = hall(10, 0, 1000, 1000, 1000, 1000);
        x.addStock(10, 0, 100, 100);
        x.locate(0, 0, 5);
        x.locate(2, 0, 5);
        x.locate(0, 1, 5);
        deal(x, 0, 1, 5, 10);
        deal(x, 0, 1, 5, 10);
        endDays(x, 2);
        deal(x, 2, 3, 5, 10);
        deal(x, 2, 3, 2, 10);
        x.limit(0, 1, 0, false, 5, 10);
        x.market(3, 1, 0, true, 5);
        x.limit(0, 1, 0, false, 5, 10);
        x.market(3, 1, 0, true, 5);
        endDays(x, 2);
        Check.due("2 days old", x.owed(1, 0), 5);
        Check.due("of the trade", x.owed(3, 0), 7);
        x.endDay();
        Check.due("bought in", x.owed(1, 0), 0);
        Check.due("what lacks of the trade is bought in with them", x.owed(3, 0), 0);
        Check.due("what 2 delivered went to 1, who is not bought in", x.position(1, 0), 10);
        Check.due("3 is bought in with all", x.position(3, 0), 0);
        Check.due("the other stock has ages of its own", x.owed(3, 1), 5);
        x.endDay();
        Check.due("2 days old", x.owed(3, 1), 5);
        x.endDay();
        Check.due("bought in", x.owed(3, 1), 0);
        // Of two settled evenings apart, the second one starts at 0 again.
        Markethall y = hall(10, 0, 1000, 1000, 1000);
        y.locate(0, 0, 5);
        deal(y, 0, 1, 5, 10);
        deal(y, 0, 1, 1, 10);
        endDays(y, 5);
        Check.due("bought in", y.owed(1, 0), 0);
        deal(y, 0, 2, 1, 10);
        endDays(y, 4);
        Check.due("2 days old", y.owed(2, 0), 1);
        y.endDay();
        Check.due("bought in", y.owed(2, 0), 0);
    }

    // "for each share 11 tenths of the last price, cut by itself".
    private static void elevenTenths() {
        int[][] dues = {{1, 1}, {9, 9}, {10, 11}, {11, 12}, {18, 19}, {19, 20}, {20, 22}, {9999, 10998}};
        for (int[] due : dues) {
            Markethall x = hall(due[0], 0, 1000000, 1000000);
            x.locate(0, 0, 10);
            deal(x, 0, 1, 10, due[0]);
            deal(x, 0, 1, 10, due[0]);
            endDays(x, 5);
            Check.due("bought in at the last price " + due[0], x.cashOf(0), 1000000L + 20 * due[0] - 10 * due[1]);
            Check.due("got", x.cashOf(1), 1000000L - 20 * due[0] + 10 * due[1]);
            Check.due("position", x.position(0, 0), -10);
            Check.due("nothing for the house", x.fund(), 0L);
        }
    }

    // "what those who lack and those who lacked differ by is for the house, its cash and its position".
    private static void houseTakesTheDifference() {
        // 1 has bought from 0 and defaults; 2 has bought, too. 0 lacks 8, 2 lacked 5.
        Markethall x = hall(10, 100, 100000, 0, 100000);
        x.locate(0, 0, 4);
        deal(x, 0, 1, 3, 10);
        deal(x, 0, 2, 4, 10);
        deal(x, 0, 2, 1, 10);
        x.issue(2, 0, 100);
        x.limit(2, 0, 0, false, 1, 1);
        x.market(0, 0, 0, true, 1);
        Check.due("called", x.endDay(), 1);
        Check.due("1 defaults", x.endDay(), 1);
        Check.due("house", x.houseOf(0), 3);
        long fund = x.fund();
        Check.due("0 has to deliver 7", x.owed(0, 0), -7);
        Check.due("2 is to get 4", x.owed(2, 0), 4);
        x.endDay();
        Check.due("4 were delivered, all to 2", x.settled(2, 0), 104);
        Check.due("3 lack to deliver, none to get", x.owed(0, 0) * 10 + x.owed(2, 0), -30);
        endDays(x, 1);
        Check.due("no buying in yet", x.houseOf(0), 3);
        x.endDay();
        Check.due("11 tenths of 1 for each of 3 go to the house", x.fund(), fund + 3);
        Check.due("which delivered 3", x.houseOf(0), 0);
        Check.due("0 is bought in", x.position(0, 0), -4);
        Check.due("sound", x.isSound(), true);
        // 0, who sold, defaults; nobody delivers what 1 is to get.
        Markethall y = hall(10, 100, 0, 100000);
        y.locate(0, 0, 4);
        deal(y, 0, 1, 4, 10);
        endDays(y, 4);
        Check.due("house", y.houseOf(0), -4);
        Check.due("owed", y.owed(1, 0), 4);
        y.endDay();
        Check.due("the house pays", y.fund(), -44L);
        Check.due("and has got 4", y.houseOf(0), 0);
        Check.due("1 has given them back", y.position(1, 0), 0);
        Check.due("for 44", y.cashOf(1), 100004L);
        Check.due("none lacked who deliver", y.fails(), 0);
        Check.due("sound", y.isSound(), true);
    }

    // The fund may be below 0; then it pays nothing for a default.
    private static void fundBelowNought() {
        Markethall x = hall(10, 100, 0, 100000, 0, 100000);
        x.locate(0, 0, 4);
        deal(x, 0, 1, 4, 10);
        endDays(x, 5);
        Check.due("fund", x.fund(), -44L);
        x.locate(2, 0, 10);
        deal(x, 2, 1, 10, 10);
        x.issue(3, 0, 1);
        deal(x, 3, 1, 1, 15);
        endDays(x, 2);
        Check.due("2 is out", x.isOut(2), true);
        Check.due("the fund stays", x.fund(), -44L);
        Check.due("1 pays 25 of 50", x.cashOf(1), 100004L - 115 - 25);
        Check.due("3 pays 25 of 50", x.cashOf(3), 100015L - 25);
        Check.due("endow", x.endow(44), 0L);
    }

    // "One whose equity is less than the need is called": need 100.
    private static void equityLessThanNeed() {
        for (int cash = 99; cash <= 101; cash++) {
            Markethall x = hall(10, 100, cash, 1000);
            x.locate(0, 0, 10);
            deal(x, 0, 1, 10, 10);
            Check.due("equity", x.equity(0), (long) cash);
            Check.due("need", x.need(0), 100L);
            Check.due("before", x.isCalled(0), false);
            Check.due("called with " + cash, x.endDay(), cash < 100 ? 1 : 0);
            Check.due("isCalled", x.isCalled(0), cash < 100);
            Check.due("defaulted with " + cash, x.endDay(), cash < 100 ? 1 : 0);
            Check.due("isOut", x.isOut(0), cash < 100);
            Check.due("isCalled", x.isCalled(0), false);
            Check.due("the other one", x.isCalled(1) || x.isOut(1), false);
        }
        Markethall y = hall(10, 0, 0, 1000);
        Check.due("0 is not less than 0", y.endDay(), 0);
    }

    // "divided by 100 and cut", for each stock.
    private static void needIsCut() {
        for (int cash = 5; cash <= 7; cash++) {
            Markethall x = hall(19, 33, cash, 1000);
            x.locate(0, 0, 1);
            deal(x, 0, 1, 1, 19);
            Check.due("6.27", x.need(0), 6L);
            Check.due("called with " + cash, x.endDay(), cash < 6 ? 1 : 0);
        }
        Markethall y = hall(99, 1, 1000);
        y.addStock(99, 1, 100, 100);
        y.issue(0, 0, 1);
        y.issue(0, 1, 1);
        Check.due("0.99 and 0.99", y.need(0), 0L);
        y.issue(0, 0, 1);
        Check.due("1.98 and 0.99", y.need(0), 1L);
        Markethall z = hall(9999, 100, 1000000, 0);
        z.issue(1, 0, 9999);
        Check.due("of the greatest", z.need(1), 9999L * 9999);
        z.locate(0, 0, 9999);
        Check.due("located shares need none", z.need(0), 0L);
    }

    // "one who was called already the day before defaults".
    private static void calledTheDayBefore() {
        Markethall x = hall(10, 100, 50, 1000);
        x.locate(0, 0, 10);
        deal(x, 0, 1, 10, 10);
        Check.due("called", x.endDay(), 1);
        deal(x, 1, 0, 5, 10);
        Check.due("50 for 50: not called", x.endDay(), 0);
        Check.due("isCalled", x.isCalled(0), false);
        deal(x, 0, 1, 1, 10);
        Check.due("called, a day between", x.endDay(), 1);
        Check.due("isCalled", x.isCalled(0), true);
        Check.due("isOut", x.isOut(0), false);
        Check.due("called twice running: it defaults", x.endDay(), 1);
        Check.due("isCalled", x.isCalled(0), false);
        Check.due("isOut", x.isOut(0), true);
        Check.due("house", x.houseOf(0), -6);
    }

    // "it is not looked at margin any more"; "traders who are in".
    private static void whoIsOutIsNotLookedAt() {
        for (int called = 0; called <= 1; called++) {
            Markethall x = hall(10, 100, 50, 1000);
            x.locate(0, 0, 10);
            deal(x, 0, 1, 10, 10);
            if (called == 1) {
                x.endDay();
            }
            Check.due("kill", x.kill(0), 0);
            Check.due("called at the end of the last day", x.isCalled(0), called == 1);
            Check.due("not looked at", endDays(x, 2), 0);
            Check.due("not called", x.isCalled(0), false);
            Check.due("cash stays", x.cashOf(0), 150L);
            Check.due("position stays", x.position(0, 0), -10);
            Check.due("house", x.houseOf(0), 0);
            Check.due("equity is told all the same", x.equity(0), 50L);
            Check.due("need, too", x.need(0), 100L);
        }
    }

    // 0 is short of 10 at 10; then 2 buys one at 20: the equity of 0 is its cash less 100.
    private static Markethall loser(int... cash) {
        Markethall x = hall(10, 100, cash);
        x.issue(1, 0, 100);
        x.locate(0, 0, 10);
        deal(x, 0, 1, 10, 10);
        deal(x, 1, 2, 1, 20);
        return x;
    }

    // "if cash is less than 0 then"; "with no cash, what is above 0 being paid to the fund".
    private static void cashBehindADefault() {
        for (int cash = 98; cash <= 102; cash++) {
            Markethall x = loser(cash, 5000, 5000);
            Check.due("equity", x.equity(0), cash - 100L);
            endDays(x, 2);
            Check.due("out", x.isOut(0), true);
            Check.due("cash", x.cashOf(0), 0L);
            Check.due("fund behind " + cash, x.fund(), Math.max(0, cash - 100L));
            if (cash > 100) {
                Check.due("to what the fund has", fundWith(7, cash), cash - 100L + 7);
            }
            int lost = Math.max(0, 100 - cash);
            Check.due("1 pays first", x.cashOf(1), 4920L - (lost + 1) / 2);
            Check.due("2 pays the other half", x.cashOf(2), 4980L - lost / 2);
        }
    }

    private static long fundWith(int fund, int cash) {
        Markethall x = loser(cash, 5000, 5000);
        x.endow(fund);
        endDays(x, 2);
        return x.fund();
    }

    // "the fund pays, as far as it goes": 90.
    private static void fundPaysAsFarAsItGoes() {
        for (int fund = 88; fund <= 92; fund++) {
            Markethall x = loser(10, 5000, 5000);
            x.endow(fund);
            endDays(x, 2);
            Check.due("of " + fund, x.fund(), (long) Math.max(0, fund - 90));
            int rest = Math.max(0, 90 - fund);
            Check.due("1 pays", x.cashOf(1), 4920L - (rest + 1) / 2);
            Check.due("2 pays", x.cashOf(2), 4980L - rest / 2);
        }
    }

    // "the rest is paid by all other traders who are in, in equal parts, cut, and what is left over by 1 each of the lowest".
    private static void othersPay() {
        for (int cash = 91; cash <= 100; cash++) {
            int lost = 100 - cash;
            Markethall x = loser(cash, 5000, 5000, 700, 0, 900);
            x.kill(3);
            endDays(x, 2);
            int over = lost % 4;
            Check.due("1 of " + lost, x.cashOf(1), 4920L - lost / 4 - (over > 0 ? 1 : 0));
            Check.due("2 of " + lost, x.cashOf(2), 4980L - lost / 4 - (over > 1 ? 1 : 0));
            Check.due("3 is out", x.cashOf(3), 700L);
            Check.due("4, below 0, too", x.cashOf(4), 0L - lost / 4 - (over > 2 ? 1 : 0));
            Check.due("5 of " + lost, x.cashOf(5), 900L - lost / 4);
            Check.due("fund", x.fund(), 0L);
        }
    }

    // "without any, it is lost".
    private static void withoutAny() {
        Markethall x = loser(7, 5000, 5000);
        x.endow(3);
        x.kill(1);
        x.kill(2);
        endDays(x, 2);
        Check.due("out", x.isOut(0), true);
        Check.due("the fund pays its part", x.fund(), 0L);
        Check.due("nobody else", x.cashOf(1) + x.cashOf(2), 4920L + 4980L);
        Check.due("it is lost", x.cashOf(0), 0L);
        Check.due("nobody is looked at any more", x.endDay(), 0);
        Markethall y = loser(7, 5000, 5000);
        y.kill(1);
        endDays(y, 2);
        Check.due("with one, this pays all", y.cashOf(2), 4980L - 93);
        Check.due("who is out pays nothing", y.cashOf(1), 4920L);
        // The first trader pays as any other.
        for (int cash = 97; cash <= 99; cash++) {
            Markethall z = hall(10, 100, 5000, cash, 5000);
            z.issue(0, 0, 100);
            z.locate(1, 0, 10);
            deal(z, 1, 0, 10, 10);
            deal(z, 0, 2, 1, 20);
            endDays(z, 2);
            int lost = 100 - cash;
            Check.due("0 of " + lost, z.cashOf(0), 4920L - (lost + 1) / 2);
            Check.due("2 of " + lost, z.cashOf(2), 4980L - lost / 2);
        }
    }

    // By the numbers of the traders: who has paid for a lower one is looked at behind that.
    private static void oneByOne() {
        for (int cash = 49; cash <= 51; cash++) {
            // 1 needs 20 for one share of 20; what 0 lost is 100, by two: 50 each.
            Markethall x = hall(10, 100, 0, cash, 5000);
            x.issue(2, 0, 100);
            x.locate(0, 0, 10);
            deal(x, 0, 2, 10, 10);
            x.limit(2, 0, 0, false, 1, 20);
            x.market(1, 0, 0, true, 1);
            Check.due("0 and who has too little are called", x.endDay(), 1);
            Check.due("0 defaults, and 1 is looked at", x.endDay(), 1 + (cash - 20 - 50 < 0 ? 1 : 0));
            Check.due("1 has paid", x.cashOf(1), cash - 20L - 50);
            Check.due("is called", x.isCalled(1), true);
        }
        // 2, whose default 1 pays for, is looked at behind 1.
        Markethall y = hall(10, 100, 5000, 50, 0);
        y.issue(0, 0, 100);
        y.locate(2, 0, 10);
        deal(y, 2, 0, 10, 10);
        deal(y, 0, 1, 1, 20);
        y.endDay();
        Check.due("2 alone", y.endDay(), 1);
        Check.due("1 has paid", y.cashOf(1), 50L - 20 - 50);
        Check.due("but is not called yet", y.isCalled(1), false);
        Check.due("the day behind it is", y.endDay(), 1);
        Check.due("called", y.isCalled(1), true);
        // Two on one evening: the first is out as the second one is shared out.
        Markethall z = hall(10, 100, 0, 0, 5000, 5000);
        z.issue(2, 0, 100);
        z.locate(0, 0, 10);
        z.locate(1, 0, 10);
        deal(z, 0, 2, 10, 10);
        deal(z, 1, 2, 10, 10);
        deal(z, 2, 3, 1, 20);
        Check.due("both are called", z.endDay(), 2);
        Check.due("both default", z.endDay(), 2);
        // 100 by three: 34, 33, 33; then 100 and 34 by two: 67 each.
        Check.due("2", z.cashOf(2), 5000L - 200 + 20 - 33 - 67);
        Check.due("3", z.cashOf(3), 5000L - 20 - 33 - 67);
        Check.due("house", z.houseOf(0), -20);
    }

    // "all orders are cancelled, all positions go to the house ...; settled and located shares and obligations are gone".
    private static void allIsGone() {
        Markethall x = hall(10, 100, 0, 5000);
        x.addStock(10, 100, 100, 100);
        x.issue(0, 1, 3);
        x.issue(1, 1, 10);
        x.locate(0, 0, 20);
        x.locate(0, 1, 2);
        deal(x, 0, 1, 10, 10);
        int limit = x.limit(0, 1, 0, false, 2, 15);
        int stop = x.stop(0, 1, 0, false, 2, 5);
        int peg = x.peg(0, 1, 1, true, 1, 0);
        int other = x.limit(1, 1, 1, false, 1, 16);
        endDays(x, 2);
        Check.due("limit", x.stateOf(limit), 'x');
        Check.due("stop", x.stateOf(stop), 'x');
        Check.due("peg", x.stateOf(peg), 'x');
        Check.due("not that of another", x.stateOf(other), 'o');
        Check.due("positions", x.position(0, 0) + x.position(0, 1), 0);
        Check.due("house", x.houseOf(0), -10);
        Check.due("house", x.houseOf(1), 3);
        Check.due("settled", x.settled(0, 1), 0);
        Check.due("owed", x.owed(0, 0), 0);
        Check.due("that of others stays", x.owed(1, 0), 10);
        Check.due("30 for three shares, to the fund", x.fund(), 30L);
        Check.due("equity and need", x.equity(0) + x.need(0), 0L);
        Check.due("no alarm", x.alarms('s') + x.alarms('w'), 0);
        Check.noOperation("issue", () -> x.issue(0, 0, 1));
        Check.noOperation("locate", () -> x.locate(0, 0, 1));
        Check.noOperation("kill", () -> x.kill(0));
        Check.due("refused", x.limit(0, 0, 0, true, 1, 1), -1);
        Check.due("k", x.refused(), 'k');
        Check.due("sound", x.isSound(), true);
    }

    // "obligations of the trader are gone", those of trades of each day, and those that lack of each age.
    private static void obligationsAreGone() {
        for (int day = 0; day < 7; day++) {
            Markethall x = hall(10, 100, 5000, 100, 5000);
            x.issue(2, 0, 500);
            x.locate(0, 0, 5);
            deal(x, 0, 1, 5, 10);
            deal(x, 0, 1, 5, 10);
            endDays(x, day);
            Check.due("in", x.isOut(1), false);
            deal(x, 2, 1, 300, 10);
            x.endDay();
            deal(x, 2, 1, 20, 10);
            x.endDay();
            Check.due("1 is out, behind day " + day, x.isOut(1), true);
            Check.due("nothing is owed to 1", x.owed(1, 0), 0);
            Check.due("by 2 it is", x.owed(2, 0), -320);
            endDays(x, 3);
            Check.due("delivered, to nobody", x.settled(2, 0), 180);
            Check.due("nor has 1 got any", x.settled(1, 0), 0);
            Check.due("sound", x.isSound(), true);
        }
    }

    // "divided by k, cut, but at least 1, offsets at least 0".
    private static void splitsOfPrices() {
        for (int by = 2; by <= 5; by++) {
            for (int price : new int[] {1, by - 1, by, 2 * by - 1, 2 * by, 9999}) {
                Markethall x = hall(price, 0, 1000000, 1000000);
                x.addStock(price, 0, 100, 10);
                x.issue(0, 0, 100);
                x.limit(0, 0, 0, false, 1, price);
                x.limit(0, 1, 0, true, 1, price);
                int due = Math.max(1, price / by);
                Check.due("split of " + price + " by " + by, x.split(0, by), due);
                Check.due("last price", x.lastPrice(0), due);
                Check.due("limit", x.priceOf(0), due);
                Check.due("the other stock", x.lastPrice(1), price);
                Check.due("its limit", x.priceOf(1), price);
                int above = Math.min(9999, 2 * due + 1);
                x.cancel(0);
                x.limit(0, 0, 0, false, 1, Math.min(9999, 2 * due));
                x.market(1, 0, 0, true, 1);
                Check.due("twice the reference is in the band", x.phaseOf(0), 'c');
                x.limit(0, 0, 0, false, 1, above);
                x.market(1, 0, 0, true, 1);
                Check.due("1 more is not", x.phaseOf(0), 'h');
            }
            for (int offset : new int[] {0, by - 1, by, 2 * by - 1, 99}) {
                Markethall x = hall(10, 0, 1000, 1000);
                x.limit(1, 0, 0, true, 1, 9999);
                x.openAuction(0);
                x.peg(1, 0, 0, true, 1, offset);
                x.split(0, by);
                Check.due("offset " + offset + " by " + by, x.priceOf(1), 9999 / by - offset / by);
            }
            triggersOfSplit(by);
        }
    }

    // The last price is 1 behind the split and the auction: a stop to sell fires at any trigger, one to buy at 1.
    private static void triggersOfSplit(int by) {
        Markethall x = hall(1, 0, 1000, 1000);
        x.openAuction(0);
        x.stop(1, 0, 0, true, 1, 1);
        x.stop(1, 0, 0, true, 1, by);
        x.stop(1, 0, 0, true, 1, 2 * by - 1);
        x.stop(1, 0, 0, true, 1, 2 * by);
        x.split(0, by);
        x.uncross(0);
        Check.due("1 stays 1", x.stateOf(0), 'x');
        Check.due("by becomes 1", x.stateOf(1), 'x');
        Check.due("1 less than twice by becomes 1", x.stateOf(2), 'x');
        Check.due("twice by becomes 2", x.stateOf(3), 'o');
    }

    // "positions, settled, located and pool shares, obligations, quantities and peaks of orders are k times as much".
    private static void splitsOfShares() {
        for (int by = 2; by <= 5; by++) {
            Markethall x = hall(20, 0, 1000, 1000);
            x.locate(0, 0, 9);
            deal(x, 0, 1, 6, 20);
            deal(x, 0, 1, 5, 20);
            endDays(x, 3);
            deal(x, 0, 1, 1, 20);
            int iceberg = x.iceberg(0, 0, 0, false, 7, 30, 3);
            x.openAuction(0);
            x.limit(1, 0, 0, true, 1, 30);
            x.uncross(0);
            x.market(1, 0, 0, true, 1);
            x.split(0, by);
            Check.due("position", x.position(0, 0), -14 * by);
            Check.due("settled, below 0, by " + by, x.settled(0, 0), -9 * by);
            Check.due("settled", x.settled(1, 0), 9 * by);
            Check.due("owed of trades and of fails", x.owed(0, 0), -5 * by);
            Check.due("owed", x.owed(1, 0), 5 * by);
            Check.due("left", x.leftOf(iceberg), 5 * by);
            Check.due("what is left of its part", x.shown(0, false, 30 / by), 2 * by);
            Check.due("pool", x.locate(1, 0, 1), 9990 * by - 1);
            Check.due("located: 9 less 5 that are offered, and 1 more", x.limit(0, 0, 0, false, 4 * by + 1, 50), -1);
            Check.due("located: 9 less 5 that are offered", x.limit(0, 0, 0, false, 4 * by, 50), iceberg + 3);
            x.market(1, 0, 0, true, 2 * by);
            Check.due("its peak", x.shown(0, false, 30 / by), 3 * by);
            Check.due("a trade of before stays", x.tradePrice(1) * 10 + x.tradeQuantity(1), 301);
            Check.due("fails stay", x.fails(), 2);
            Check.due("sound", x.isSound(), true);
        }
    }

    // Those due on each of the next days, and the house.
    private static void splitsOfObligations() {
        for (int day = 0; day < 6; day++) {
            Markethall x = hall(10, 100, 0, 5000, 5000);
            x.locate(0, 0, 10);
            deal(x, 0, 1, 10, 10);
            endDays(x, 4 + day);
            x.issue(2, 0, 100);
            int house = x.houseOf(0);
            int owed = x.owed(1, 0);
            for (int i = 1; i <= 3; i++) {
                deal(x, 2, 1, i, 10);
                if (i < 3) {
                    x.endDay();
                }
            }
            int later = x.houseOf(0);
            int sum = x.owed(1, 0);
            Check.due("the house behind day " + day, house, day == 0 ? -10 : 0);
            Check.due("owed behind day " + day, owed, day == 0 ? 10 : 0);
            Check.due("split", x.split(0, 3), 3);
            Check.due("house", x.houseOf(0), 3 * later);
            Check.due("owed", x.owed(1, 0), 3 * sum);
            int settled = x.settled(1, 0);
            for (int i = 1; i <= 3; i++) {
                x.endDay();
                settled += 3 * i;
                Check.due("settled of day " + i, x.settled(1, 0), settled);
            }
            Check.due("sound", x.isSound(), true);
        }
        Markethall y = hall(10, 100, 0, 5000);
        y.locate(0, 0, 10);
        deal(y, 0, 1, 10, 10);
        endDays(y, 2);
        y.split(0, 4);
        Check.due("the house below 0", y.houseOf(0), -40);
        Check.due("sound", y.isSound(), true);
    }

    // "if there was one already": of this stock.
    private static void splitOnce() {
        Markethall x = hall(9999, 0, 1000);
        x.addStock(9999, 0, 100, 0);
        Check.due("the greatest by the greatest", x.split(0, 5), 1999);
        Check.noOperation("again", () -> x.split(0, 2));
        Check.due("the other stock", x.split(1, 2), 4999);
        Check.noOperation("again", () -> x.split(1, 2));
        x.endDay();
        Check.noOperation("on another day, too", () -> x.split(0, 5));
        x.addStock(10, 0, 100, 0);
        Check.due("a stock that came later", x.split(2, 3), 3);
    }

    // "or takes it, if this is less than 0"; "how much was paid, less what was taken".
    private static void dividendOfLessThanNought() {
        Markethall x = hall(10, 0, 5, 1000, 1000);
        x.locate(0, 0, 10);
        Check.due("no positions", x.dividend(0, 99), 0L);
        deal(x, 0, 1, 10, 10);
        Check.due("paid and taken alike", x.dividend(0, 11), 0L);
        Check.due("taken, below 0", x.cashOf(0), 5L + 100 - 110);
        Check.due("paid", x.cashOf(1), 1000L - 100 + 110);
        Check.due("a position of 0", x.cashOf(2), 1000L);
        x.issue(2, 0, 1);
        Check.due("1 for the share that was issued", x.dividend(0, 1), 1L);
        Check.due("nothing is owed by it", x.owed(2, 0), 0);
        Check.due("called: 0 is more than -15", x.endDay(), 1);
        x.endDay();
        Check.due("house", x.houseOf(0), -10);
        Check.due("the house pays, too", x.dividend(0, 9), 9L);
        Check.due("fund", x.fund(), -90L);
        Check.due("who is out has no position", x.cashOf(0), 0L);
        x.kill(1);
        x.endow(1000);
        Check.due("who was killed has", x.dividend(0, 1), 1L);
        Check.due("the house pays of what it has", x.fund(), 1000L - 90 - 10);
        Check.due("sound", x.isSound(), true);
    }
}
