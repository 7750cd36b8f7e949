import java.util.ArrayList;
import java.util.List;

/**
 * The edges that the document names about entries: of "Terms" down to "Days", and of promises 1 to 8.
 * Each test stands under the words that it holds. Arguments out of range: RefusedCallsTest.
 */
public final class EdgesOfTradesTest {
    private static final Checks CHECKS = new Checks();

    public static void main(String[] args) {
        aNewObjectIsEmpty();
        aNewObjectHasThirtyDays();
        theLastOf512Calls();
        tradesInEveryOrder();
        cancelledTradesLeaveNoTrace();
        sharesAreReckonedByThemselves();
        numbersRunThroughAllShares();
        buysOnTheirEdges();
        salesOnTheirEdges();
        theSixtiethTradeOfEachKind();
        theSixtiethIsOfAllShares();
        aHoldingOfExactlyZero();
        aHoldingOfZeroOnALaterDay();
        aHoldingOfZeroOnTheFirstAndTheLastDay();
        aHoldingOfZeroAcrossSplits();
        splitsOnTheirEdges();
        splitsOfFullAndEmptyShares();
        fourSplitsInEveryOrder();
        cancelOfTheFirstAndTheLast();
        cancelDownToZero();
        cancelOfABuyThatASaleOfItsDayNeeds();
        cancelOfTheLastDay();
        cancelOfSixtyDays();
        cancelAcrossASplit();
        cancelOfASaleIsNeverRefused();
        allowancesOnTheirEdges();
        windowsOnTheirEdges();
        tradesCountsWhatWasEntered();
        CHECKS.end("EdgesOfTradesTest");
    }

    /** "No trades and splits; all allowances are 0". */
    private static void aNewObjectIsEmpty() {
        GainsReckoner x = new GainsReckoner();
        for (int share = 0; share < 3; share++) {
            int s = share;
            CHECKS.due("new: last holding", 0, () -> x.holding(s, 1824));
            CHECKS.due("new: first pool", 0, () -> x.poolUnits(s, 0));
            CHECKS.due("new: match 0", Checks.INDEX, () -> x.kindOf(s, 0));
            CHECKS.due("new: no holding to sell", Checks.STATE, () -> x.sell(s, 1824, 1, 0));
        }
        CHECKS.done("new: trade 0", Checks.INDEX, () -> x.cancel(0));
        CHECKS.due("new: next number", 0, () -> x.buy(0, 0, 1, 0));
        CHECKS.due("new: a share is as it was", 1, () -> x.holding(0, 1824));
        x.sell(0, 0, 1, 1);
        CHECKS.due("new: no allowance", 1, () -> x.taxable(0));
    }

    /** "the window is 30 days". */
    private static void aNewObjectHasThirtyDays() {
        for (int days = 29; days <= 31; days++) {
            int day = 100 + days;
            GainsReckoner x = new GainsReckoner();
            x.buy(0, 0, 1, 5);
            x.sell(0, 100, 1, 0);
            x.buy(0, day, 1, 7);
            CHECKS.due("new: a buy after " + days + " days", days <= 30 ? day : -1, () -> x.buyDay(0, 0));
        }
    }

    /** "An object is used for at most 512 calls after it has been made". */
    private static void theLastOf512Calls() {
        GainsReckoner x = new GainsReckoner();
        for (int call = 0; call < 510; call++) {
            if (call < 59) {
                x.buy(0, 30 * call, 1000, 1000000);
            } else {
                x.setWindow(call % 61);
            }
        }
        CHECKS.due("call 511", 59, () -> x.sell(0, 1740, 1000, 1));
        CHECKS.due("call 512", 1000000, () -> x.costMatched(0));
        GainsReckoner y = new GainsReckoner();
        for (int call = 0; call < 511; call++) {
            CHECKS.due("call " + call, Checks.ARGUMENT, () -> y.buy(0, 0, 0, 0));
        }
        CHECKS.due("call 512 after refused ones", 0, () -> y.buy(0, 0, 1, 0));
    }

    private static void enter(GainsReckoner x, int... t) {
        if (t[0] == 0) {
            x.buy(0, t[1], t[2], t[3]);
        } else {
            x.sell(0, t[1], t[2], t[3]);
        }
    }

    private static final int[][] FIVE = {
        {0, 10, 10, 1000}, {0, 20, 4, 300}, {0, 40, 2, 50}, {1, 12, 3, 90}, {1, 20, 5, 200}};
    private static final String MATCHES_OF_FIVE =
        "1 12 40 2 50 60; 2 12 -1 1 100 30; 0 20 20 4 300 160; 2 20 -1 1 100 40";

    /** "Trades can be entered late, in any order": but no sale before what it needs. */
    private static void tradesInEveryOrder() {
        List<List<Integer>> orders = new ArrayList<>();
        addOrders(orders, new ArrayList<>());
        CHECKS.same("orders", 120, orders.size());
        for (List<Integer> order : orders) {
            GainsReckoner x = new GainsReckoner();
            boolean starved = false;
            for (int i : order) {
                // Both sales need the buy of day 10.
                starved |= i >= 3 && order.indexOf(0) > order.indexOf(i);
                if (i >= 3 && order.indexOf(0) > order.indexOf(i)) {
                    CHECKS.done(order + ": too early", Checks.STATE, () -> enter(x, FIVE[i]));
                } else {
                    enter(x, FIVE[i]);
                }
            }
            if (!starved) {
                CHECKS.due("in the order " + order, MATCHES_OF_FIVE, () -> Checks.rows(x, 0));
                CHECKS.due("pool in the order " + order, 800, () -> x.poolCost(0, 40));
            }
        }
    }

    private static void addOrders(List<List<Integer>> orders, List<Integer> sofar) {
        if (sofar.size() == 5) {
            orders.add(new ArrayList<>(sofar));
            return;
        }
        for (int i = 0; i < 5; i++) {
            if (!sofar.contains(i)) {
                sofar.add(i);
                addOrders(orders, sofar);
                sofar.remove(sofar.size() - 1);
            }
        }
    }

    /** "Trades can be .. cancelled; all matches are always those that the trades as they are lead to". */
    private static void cancelledTradesLeaveNoTrace() {
        for (int[] more : new int[][] {{0, 0, 9, 1}, {0, 10, 9, 1}, {0, 13, 9, 1}, {0, 20, 1, 1}, {0, 1824, 1, 1},
                {1, 10, 1, 1}, {1, 12, 1, 1}, {1, 20, 8, 1}, {1, 1824, 8, 1}}) {
            GainsReckoner x = new GainsReckoner();
            enter(x, FIVE[0]);
            enter(x, FIVE[1]);
            enter(x, more);
            enter(x, FIVE[2]);
            String where = (more[0] == 0 ? "buy" : "sale") + " of day " + more[1];
            CHECKS.done(where, "nothing", () -> x.cancel(2));
            enter(x, FIVE[3]);
            enter(x, FIVE[4]);
            CHECKS.due("without the " + where, MATCHES_OF_FIVE, () -> Checks.rows(x, 0));
            CHECKS.due("cost without the " + where, 1350, () -> x.costIn(0));
            CHECKS.due("holding without the " + where, 8, () -> x.holding(0, 1824));
            CHECKS.due("first day without the " + where, 0, () -> x.holding(0, 0));
            CHECKS.due("number after the " + where, 6, () -> x.buy(0, 0, 1, 1));
        }
    }

    /** "There are the shares 0, 1 and 2, each reckoned by itself." */
    private static void sharesAreReckonedByThemselves() {
        for (int share = 0; share < 3; share++) {
            int one = share;
            int other = (share + 1) % 3;
            GainsReckoner x = new GainsReckoner();
            x.buy(one, 0, 4, 40);
            x.buy(other, 10, 4, 999);
            x.buy(other, 11, 4, 999);
            x.split(other, 5, 3);
            x.split(other, 15, 2);
            x.sell(one, 10, 3, 60);
            CHECKS.due("no other's buys", "2 10 -1 3 30 60", () -> Checks.rows(x, one));
            CHECKS.due("no other's holding", Checks.STATE, () -> x.sell(one, 11, 2, 1));
            CHECKS.due("no other's splits", 1, () -> x.split(one, 15, 5));
            CHECKS.due("holding", 5, () -> x.holding(one, 15));
            CHECKS.due("the other's holding", 16, () -> x.holding(other, 15));
            CHECKS.due("the other's matches", 0, () -> x.matches(other));
            CHECKS.due("the other's cost", 1998, () -> x.costIn(other));
            CHECKS.due("the third's pool", 0, () -> x.poolUnits((one + 2) % 3, 1824));
        }
    }

    /** "All trades, of all shares, are numbered from 0 in the order in which they were entered." */
    private static void numbersRunThroughAllShares() {
        GainsReckoner x = new GainsReckoner();
        CHECKS.due("share 2", 0, () -> x.buy(2, 1824, 2, 1));
        CHECKS.due("share 0", 1, () -> x.buy(0, 0, 2, 1));
        CHECKS.due("a sale", 2, () -> x.sell(2, 1824, 1, 1));
        CHECKS.due("a refused sale", Checks.STATE, () -> x.sell(1, 1824, 1, 1));
        CHECKS.due("a split", 1, () -> x.split(1, 3, 2));
        CHECKS.due("share 1", 3, () -> x.buy(1, 7, 2, 1));
        x.cancel(3);
        CHECKS.due("after a cancelled one", 4, () -> x.buy(1, 7, 2, 1));
    }

    /** buy: "0 to 2", "0 to 1824", "1 to 1000: how many shares", "0 to 1000000: in all". */
    private static void buysOnTheirEdges() {
        for (int share = 0; share < 3; share++) {
            int s = share;
            GainsReckoner x = new GainsReckoner();
            CHECKS.due("fewest, at nothing, first day", 0, () -> x.buy(s, 0, 1, 0));
            CHECKS.due("most, at most, last day", 1, () -> x.buy(s, 1824, 1000, 1000000));
            CHECKS.due("first day", 1, () -> x.holding(s, 0));
            CHECKS.due("day before the last", 1, () -> x.holding(s, 1823));
            CHECKS.due("last day", 1001, () -> x.holding(s, 1824));
            CHECKS.due("cost in all, not of each", 1000000, () -> x.costIn(s));
            CHECKS.due("nothing in the first pool", 0, () -> x.poolCost(s, 0));
        }
    }

    /** sell: the same ranges; "proceeds: in all". */
    private static void salesOnTheirEdges() {
        for (int share = 0; share < 3; share++) {
            int s = share;
            GainsReckoner x = new GainsReckoner();
            x.buy(s, 0, 1000, 0);
            x.buy(s, 0, 1, 0);
            CHECKS.due("fewest, for nothing, first day", 2, () -> x.sell(s, 0, 1, 0));
            CHECKS.due("most, for most, last day", 3, () -> x.sell(s, 1824, 1000, 1000000));
            CHECKS.due("matches", "0 0 0 1 0 0; 2 1824 -1 1000 0 1000000", () -> Checks.rows(x, s));
            CHECKS.due("day before the last", 1000, () -> x.holding(s, 1823));
            CHECKS.due("last day", 0, () -> x.holding(s, 1824));
        }
    }

    private static GainsReckoner withBuys(int buys) {
        GainsReckoner x = new GainsReckoner();
        for (int i = 0; i < buys; i++) {
            x.buy(1, 50, 2, 3);
        }
        return x;
    }

    /** "IllegalStateException if 60 trades were entered": 59 are none too many. */
    private static void theSixtiethTradeOfEachKind() {
        GainsReckoner x = withBuys(59);
        CHECKS.due("sixtieth, a buy", 59, () -> x.buy(1, 50, 2, 3));
        CHECKS.due("61st, a buy", Checks.STATE, () -> x.buy(1, 50, 2, 3));
        CHECKS.due("it counts", 120, () -> x.holding(1, 50));
        CHECKS.due("its cost too", 180, () -> x.costIn(1));
        GainsReckoner y = withBuys(59);
        CHECKS.due("sixtieth, a sale", 59, () -> y.sell(1, 50, 118, 9));
        CHECKS.due("61st, a sale", Checks.STATE, () -> y.sell(1, 50, 1, 3));
        CHECKS.due("61st, a buy", Checks.STATE, () -> y.buy(1, 50, 1, 3));
        CHECKS.due("it counts", "0 50 50 118 177 9", () -> Checks.rows(y, 1));
        GainsReckoner z = withBuys(60);
        for (int trade = 0; trade < 60; trade++) {
            int t = trade;
            CHECKS.done("cancel " + t, "nothing", () -> z.cancel(t));
        }
        CHECKS.due("all cancelled: buy", Checks.STATE, () -> z.buy(1, 50, 1, 1));
        CHECKS.due("all cancelled: trades", 60, () -> z.trades());
        CHECKS.due("all cancelled: holding", 0, () -> z.holding(1, 1824));
        CHECKS.due("all cancelled: cost", 0, () -> z.costIn(1));
    }

    /** The 60 are of all shares together; splits, windows and allowances go on. */
    private static void theSixtiethIsOfAllShares() {
        GainsReckoner x = withBuys(20);
        for (int i = 20; i < 60; i++) {
            int number = i;
            CHECKS.due("buy " + i, number, () -> x.buy(number % 2 * 2, 50, 1, 1));
        }
        for (int share = 0; share < 3; share++) {
            int s = share;
            CHECKS.due("no more buys of share " + s, Checks.STATE, () -> x.buy(s, 0, 1, 1));
            CHECKS.due("no more sales of share " + s, Checks.STATE, () -> x.sell(s, 50, 1, 1));
            CHECKS.due("a split of share " + s, 1, () -> x.split(s, 51, 2));
            CHECKS.due("split, 40 are held", 40 * (s == 1 ? 2 : 1), () -> x.holding(s, 51));
        }
        CHECKS.due("window", 30, () -> x.setWindow(1));
        CHECKS.due("allowance", 0, () -> x.setAllowance(1, 1));
        CHECKS.done("cancel of the last", "nothing", () -> x.cancel(59));
    }

    /** "the holding of the share would be below 0 at the end of some day": 0 is not below 0. */
    private static void aHoldingOfExactlyZero() {
        GainsReckoner x = new GainsReckoner();
        x.buy(0, 100, 5, 50);
        CHECKS.due("below 0 by one", Checks.STATE, () -> x.sell(0, 100, 6, 1));
        CHECKS.due("down to 0", 1, () -> x.sell(0, 100, 5, 1));
        CHECKS.due("it is 0", 0, () -> x.holding(0, 100));
        CHECKS.due("nothing is in the pool", 0, () -> x.poolUnits(0, 100));
        CHECKS.due("0 is not enough for one", Checks.STATE, () -> x.sell(0, 100, 1, 1));
        CHECKS.due("on a later day neither", Checks.STATE, () -> x.sell(0, 101, 1, 1));
        CHECKS.due("nor on an earlier one", Checks.STATE, () -> x.sell(0, 99, 1, 1));
        x.buy(0, 101, 1, 1);
        CHECKS.due("then one", 3, () -> x.sell(0, 101, 1, 1));
        CHECKS.due("it is 0 again", 0, () -> x.holding(0, 1824));
    }

    /** "at the end of some day": the day of the sale or any later one; buys of the same day help. */
    private static void aHoldingOfZeroOnALaterDay() {
        GainsReckoner x = new GainsReckoner();
        x.buy(0, 100, 5, 50);
        x.sell(0, 300, 3, 1);
        x.buy(0, 301, 1000, 1);
        CHECKS.due("day 300 would be at -1", Checks.STATE, () -> x.sell(0, 100, 3, 1));
        CHECKS.due("the day before it too", Checks.STATE, () -> x.sell(0, 299, 3, 1));
        CHECKS.due("day 300 comes to 0", 3, () -> x.sell(0, 100, 2, 1));
        CHECKS.due("it is 0", 0, () -> x.holding(0, 300));
        CHECKS.due("before it are 3", 3, () -> x.holding(0, 299));
        CHECKS.due("one more on day 200", Checks.STATE, () -> x.sell(0, 200, 1, 1));
        CHECKS.due("one on the day of the next buy", 4, () -> x.sell(0, 301, 1, 1));
        x.buy(0, 300, 1, 1);
        CHECKS.due("a buy of day 300 helps", 6, () -> x.sell(0, 200, 1, 1));
        CHECKS.due("but once", Checks.STATE, () -> x.sell(0, 300, 1, 1));
        // In the middle of day 400 more is sold than is held, at its end not.
        GainsReckoner y = new GainsReckoner();
        y.buy(0, 400, 2, 1);
        y.sell(0, 400, 2, 1);
        y.buy(0, 400, 3, 1);
        CHECKS.due("as at the end of the day", 3, () -> y.sell(0, 400, 3, 1));
        CHECKS.due("nothing is left", 0, () -> y.holding(0, 400));
    }

    /** Days 0 and 1824 are days too. */
    private static void aHoldingOfZeroOnTheFirstAndTheLastDay() {
        GainsReckoner x = new GainsReckoner();
        CHECKS.due("day 0, none held", Checks.STATE, () -> x.sell(0, 0, 1, 1));
        x.buy(0, 1, 1, 1);
        CHECKS.due("day 0, one held on day 1", Checks.STATE, () -> x.sell(0, 0, 1, 1));
        x.buy(0, 0, 1, 1);
        CHECKS.due("day 0, one held", 2, () -> x.sell(0, 0, 1, 1));
        CHECKS.due("day 1824, too many", Checks.STATE, () -> x.sell(0, 1824, 2, 1));
        CHECKS.due("day 1824, all", 3, () -> x.sell(0, 1824, 1, 1));
        CHECKS.due("day 1823 would starve the last day", Checks.STATE, () -> x.sell(0, 1823, 1, 1));
        x.buy(0, 1824, 1, 1);
        CHECKS.due("the last day has one more now", 5, () -> x.sell(0, 1823, 1, 1));
        CHECKS.due("and then none", Checks.STATE, () -> x.sell(0, 1823, 1, 1));
    }

    /** Each share held is as many as the factor from the day of the split on. */
    private static void aHoldingOfZeroAcrossSplits() {
        GainsReckoner x = new GainsReckoner();
        x.split(0, 100, 2);
        x.split(0, 200, 5);
        x.buy(0, 99, 3, 1);
        CHECKS.due("day 99: four", Checks.STATE, () -> x.sell(0, 99, 4, 1));
        CHECKS.due("day 100: seven", Checks.STATE, () -> x.sell(0, 100, 7, 1));
        CHECKS.due("day 199: seven", Checks.STATE, () -> x.sell(0, 199, 7, 1));
        CHECKS.due("day 200: 31", Checks.STATE, () -> x.sell(0, 200, 31, 1));
        CHECKS.due("day 200: 10", 1, () -> x.sell(0, 200, 10, 1));
        CHECKS.due("20 new ones are left: five are 25", Checks.STATE, () -> x.sell(0, 199, 5, 1));
        CHECKS.due("four are 20", 2, () -> x.sell(0, 100, 4, 1));
        CHECKS.due("day 199", 2, () -> x.holding(0, 199));
        CHECKS.due("day 200", 0, () -> x.holding(0, 200));
        CHECKS.due("nothing to sell on day 1824", Checks.STATE, () -> x.sell(0, 1824, 1, 1));
    }

    /** split: "0 to 1824", "2 to 5", "how many splits of the share there are then". */
    private static void splitsOnTheirEdges() {
        for (int share = 0; share < 3; share++) {
            int s = share;
            GainsReckoner x = new GainsReckoner();
            x.buy(s, 0, 1, 6);
            x.buy(s, 1824, 1, 7);
            CHECKS.due("day 0", 1, () -> x.split(s, 0, 5));
            CHECKS.due("nothing was held before day 0", 1, () -> x.holding(s, 1823));
            CHECKS.due("day 1824", 2, () -> x.split(s, 1824, 2));
            CHECKS.due("the day before", 1, () -> x.holding(s, 1823));
            CHECKS.due("the last day: two and a new one", 3, () -> x.holding(s, 1824));
            CHECKS.due("day 1", 3, () -> x.split(s, 1, 5));
            CHECKS.due("day 0 stays", 1, () -> x.holding(s, 0));
            CHECKS.due("day 1", 5, () -> x.holding(s, 1));
            CHECKS.due("the last day: ten and a new one", 11, () -> x.holding(s, 1824));
            CHECKS.due("day 2", 4, () -> x.split(s, 2, 2));
            CHECKS.due("day 3", Checks.STATE, () -> x.split(s, 3, 2));
            CHECKS.due("the fifth changes nothing", 21, () -> x.holding(s, 1824));
        }
    }

    /** A split needs no holding, no room for trades, and never makes a holding fall below 0. */
    private static void splitsOfFullAndEmptyShares() {
        GainsReckoner x = withBuys(30);
        for (int i = 0; i < 30; i++) {
            x.sell(1, 60 + i, 2, 5);
        }
        CHECKS.due("all is sold", 0, () -> x.holding(1, 89));
        CHECKS.due("between the buys and the sales", 1, () -> x.split(1, 60, 5));
        CHECKS.due("240 new ones are left", 240, () -> x.holding(1, 89));
        CHECKS.due("between two sales", 2, () -> x.split(1, 75, 3));
        // 300 - 15 * 2, three of each, less 15 * 2.
        CHECKS.due("780 newest ones are left", 780, () -> x.holding(1, 89));
        CHECKS.due("a share without trades", 1, () -> x.split(2, 60, 5));
        CHECKS.due("nothing times 5", 0, () -> x.holding(2, 60));
        GainsReckoner y = new GainsReckoner();
        y.buy(0, 10, 2, 1);
        y.sell(0, 20, 2, 1);
        CHECKS.due("after all is sold", 1, () -> y.split(0, 21, 5));
        CHECKS.due("0 stays 0", 0, () -> y.holding(0, 21));
        CHECKS.due("the units are more", 10, () -> y.unitsOf(0, 0));
    }

    /** "there is a split of the share on that day, or there are 4 splits of it". */
    private static void fourSplitsInEveryOrder() {
        int[] days = {1824, 0, 900, 899};
        GainsReckoner x = new GainsReckoner();
        for (int i = 0; i < 4; i++) {
            int n = i;
            for (int j = 0; j < n; j++) {
                int taken = days[j];
                CHECKS.due("a second one on day " + taken, Checks.STATE, () -> x.split(0, taken, 2));
            }
            CHECKS.due("on day " + days[n], n + 1, () -> x.split(0, days[n], 2 + n));
            CHECKS.due("the same day of share 1", n + 1, () -> x.split(1, days[n], 5));
        }
        for (int day : new int[] {0, 1, 898, 899, 900, 901, 1823, 1824}) {
            CHECKS.due("a fifth on day " + day, Checks.STATE, () -> x.split(0, day, 2));
        }
        CHECKS.due("share 2 has none", 1, () -> x.split(2, 900, 2));
        x.buy(0, 0, 1, 0);
        CHECKS.due("day 898", 1, () -> x.holding(0, 898));
        CHECKS.due("day 899 by 5", 5, () -> x.holding(0, 899));
        CHECKS.due("day 900 by 4", 20, () -> x.holding(0, 900));
        CHECKS.due("day 1824 by 2", 40, () -> x.holding(0, 1824));
    }

    /** cancel: "a trade"; "if there was no such trade"; "its number is not given again". */
    private static void cancelOfTheFirstAndTheLast() {
        GainsReckoner x = new GainsReckoner();
        for (int i = 0; i < 60; i++) {
            CHECKS.done("number " + i + " before it is given", Checks.INDEX, cancelling(x, i));
            x.buy(i % 3, i, 1 + i, 1);
        }
        CHECKS.done("number 60", Checks.INDEX, cancelling(x, 60));
        CHECKS.done("number -1", Checks.INDEX, cancelling(x, -1));
        CHECKS.done("number 59", "nothing", cancelling(x, 59));
        CHECKS.done("number 59 twice", Checks.STATE, cancelling(x, 59));
        CHECKS.done("number 0", "nothing", cancelling(x, 0));
        CHECKS.done("number 0 twice", Checks.STATE, cancelling(x, 0));
        CHECKS.due("the first is gone", 0, () -> x.holding(0, 0));
        // 1 + 4 + 7 + .. + 58 were bought of share 0, without the first one.
        CHECKS.due("the others of share 0 are there", 589, () -> x.holding(0, 1824));
        CHECKS.due("no number is free", Checks.STATE, () -> x.buy(0, 0, 1, 1));
    }

    private static Checks.Deed cancelling(GainsReckoner x, int trade) {
        return () -> x.cancel(trade);
    }

    /** "or the holding of its share would be below 0 at the end of some day": 0 is not below 0. */
    private static void cancelDownToZero() {
        GainsReckoner x = new GainsReckoner();
        x.buy(0, 0, 4, 40);
        x.buy(0, 100, 3, 30);
        x.buy(0, 1824, 1000, 1);
        x.sell(0, 1823, 4, 80);
        CHECKS.done("the 4: day 1823 would be at -1", Checks.STATE, cancelling(x, 0));
        CHECKS.done("the 3: day 1823 comes to 0", "nothing", cancelling(x, 1));
        CHECKS.due("it is 0", 0, () -> x.holding(0, 1823));
        CHECKS.done("now the 4 would bring -4", Checks.STATE, cancelling(x, 0));
        CHECKS.done("the later 1000 are not needed", "nothing", cancelling(x, 2));
        CHECKS.due("0 to the end", 0, () -> x.holding(0, 1824));
        CHECKS.done("cancelled and needed", Checks.STATE, cancelling(x, 1));
        CHECKS.done("the sale", "nothing", cancelling(x, 3));
        CHECKS.done("no sale, no need", "nothing", cancelling(x, 0));
        CHECKS.due("nothing ever", 0, () -> x.holding(0, 1824));
    }

    private static void cancelOfABuyThatASaleOfItsDayNeeds() {
        GainsReckoner x = new GainsReckoner();
        x.buy(0, 7, 2, 1);
        x.buy(0, 7, 3, 1);
        x.sell(0, 7, 3, 1);
        CHECKS.done("two would be left", Checks.STATE, cancelling(x, 1));
        CHECKS.done("three would be left", "nothing", cancelling(x, 0));
        CHECKS.due("the day is even", 0, () -> x.holding(0, 7));
        GainsReckoner y = new GainsReckoner();
        y.buy(0, 1824, 1, 1);
        y.sell(0, 1824, 1, 1);
        CHECKS.done("needed on the last day", Checks.STATE, cancelling(y, 0));
        GainsReckoner z = new GainsReckoner();
        z.buy(0, 0, 1, 1);
        z.buy(0, 1, 1, 1);
        z.sell(0, 0, 1, 1);
        CHECKS.done("needed on the first day", Checks.STATE, cancelling(z, 0));
    }

    /** "all is as if it had not been entered": what the last days held helps no sale and no cancel. */
    private static void cancelOfTheLastDay() {
        GainsReckoner x = new GainsReckoner();
        x.buy(0, 10, 2, 1);
        x.buy(0, 20, 5, 1);
        x.buy(0, 30, 5, 1);
        x.cancel(1);
        x.cancel(2);
        CHECKS.due("a sale of three", Checks.STATE, () -> x.sell(0, 1824, 3, 1));
        CHECKS.due("a sale of two", 3, () -> x.sell(0, 1824, 2, 1));
        CHECKS.done("the two", Checks.STATE, cancelling(x, 0));
        x.cancel(3);
        CHECKS.due("a sale of three again", Checks.STATE, () -> x.sell(0, 1824, 3, 1));
        CHECKS.due("two are held", 2, () -> x.holding(0, 1824));
    }

    /** Sixty trades on as many days, cancelled from the last day to the first, and the other way. */
    private static void cancelOfSixtyDays() {
        for (int turn = 0; turn < 2; turn++) {
            GainsReckoner x = new GainsReckoner();
            for (int i = 0; i < 60; i++) {
                x.buy(0, i < 59 ? 31 * i : 1824, 1, 1);
            }
            for (int i = 0; i < 60; i++) {
                int left = 59 - i;
                CHECKS.done("cancel " + i, "nothing", cancelling(x, turn == 0 ? left : i));
                CHECKS.due("held after cancel " + i, left, () -> x.holding(0, 1824));
                CHECKS.due("in the pool after cancel " + i, left, () -> x.poolUnits(0, 1824));
            }
            CHECKS.due("none on day 0", 0, () -> x.holding(0, 0));
        }
    }

    private static void cancelAcrossASplit() {
        for (int sold = 9; sold <= 11; sold++) {
            GainsReckoner x = new GainsReckoner();
            x.split(0, 50, 5);
            x.buy(0, 49, 2, 1);
            x.buy(0, 50, 10, 1);
            x.buy(0, 51, 10, 1);
            x.sell(0, 52, sold + 10, 1);
            Object due = sold > 10 ? Checks.STATE : "nothing";
            CHECKS.done("ten of day 49, " + sold + " needed", due, cancelling(x, 0));
            CHECKS.due("held", sold > 10 ? 9 : 10 - sold, () -> x.holding(0, 52));
        }
        for (int sold = 9; sold <= 11; sold++) {
            GainsReckoner x = new GainsReckoner();
            x.split(0, 50, 5);
            x.buy(0, 49, 2, 1);
            x.buy(0, 50, 10, 1);
            x.sell(0, 52, sold, 1);
            Object due = sold > 10 ? Checks.STATE : "nothing";
            CHECKS.done("ten of day 50, " + sold + " needed", due, cancelling(x, 1));
        }
    }

    private static void cancelOfASaleIsNeverRefused() {
        GainsReckoner x = new GainsReckoner();
        x.buy(0, 0, 2, 20);
        x.sell(0, 0, 1, 15);
        x.sell(0, 1824, 1, 16);
        CHECKS.done("with a holding of 0", "nothing", cancelling(x, 2));
        CHECKS.due("one is held", 1, () -> x.holding(0, 1824));
        CHECKS.done("the first sale", "nothing", cancelling(x, 1));
        CHECKS.due("both are held", 2, () -> x.holding(0, 0));
        CHECKS.due("nothing is matched", 0, () -> x.matches(0));
        CHECKS.due("all is in the pool", 20, () -> x.poolCost(0, 0));
    }

    /** setAllowance: "0 to 4", "0 to 1000000", "Returns the allowance before." */
    private static void allowancesOnTheirEdges() {
        GainsReckoner x = new GainsReckoner();
        for (int year = 0; year < 5; year++) {
            int y = year;
            x.buy(0, 365 * y, 1, 0);
            x.sell(0, 365 * y, 1, 1000000);
            CHECKS.due("none before", 0, () -> x.setAllowance(y, 1000000));
            CHECKS.due("the most takes all", 0, () -> x.taxable(y));
            CHECKS.due("the most before", 1000000, () -> x.setAllowance(y, 999999));
            CHECKS.due("one less", 1, () -> x.taxable(y));
            CHECKS.due("one less before", 999999, () -> x.setAllowance(y, 0));
            CHECKS.due("none takes nothing", 1000000, () -> x.taxable(y));
            CHECKS.due("none before again", 0, () -> x.setAllowance(y, y));
        }
        for (int year = 0; year < 5; year++) {
            int y = year;
            CHECKS.due("each year its own", 1000000 - y, () -> x.taxable(y));
        }
    }

    /** setWindow: "0 to 60", "Returns the window before." */
    private static void windowsOnTheirEdges() {
        GainsReckoner x = new GainsReckoner();
        CHECKS.due("30 at first", 30, () -> x.setWindow(0));
        CHECKS.due("0 before", 0, () -> x.setWindow(60));
        CHECKS.due("60 before", 60, () -> x.setWindow(1));
        CHECKS.due("61", Checks.ARGUMENT, () -> x.setWindow(61));
        CHECKS.due("-1", Checks.ARGUMENT, () -> x.setWindow(-1));
        CHECKS.due("1 before", 1, () -> x.setWindow(1));
        CHECKS.due("1 again", 1, () -> x.setWindow(30));
    }

    /** trades: "how many trades were entered, cancelled ones too". */
    private static void tradesCountsWhatWasEntered() {
        GainsReckoner x = new GainsReckoner();
        CHECKS.due("none", 0, () -> x.trades());
        x.split(0, 5, 2);
        CHECKS.due("a split is none", 0, () -> x.trades());
        CHECKS.due("a refused sale", Checks.STATE, () -> x.sell(0, 5, 1, 1));
        CHECKS.due("is none", 0, () -> x.trades());
        for (int i = 1; i <= 60; i++) {
            x.buy(i % 3, 0, 1, 1);
            CHECKS.same("after trade " + i, i, x.trades());
        }
        CHECKS.due("the 61st", Checks.STATE, () -> x.buy(0, 0, 1, 1));
        CHECKS.due("is none", 60, () -> x.trades());
        x.cancel(59);
        CHECKS.due("cancelled ones too", 60, () -> x.trades());
    }
}
