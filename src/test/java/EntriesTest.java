/** Promises 1 to 8: the new object, buy, sell, split, cancel, setAllowance, setWindow, trades. */
public final class EntriesTest {
    private static final Checks CHECKS = new Checks();
    private static final int[] WRONG_SHARES = {-1, 3, Integer.MIN_VALUE, Integer.MAX_VALUE};
    private static final int[] WRONG_DAYS = {-1, 1825, Integer.MIN_VALUE, Integer.MAX_VALUE};
    private static final int[] WRONG_COUNTS = {0, -1, 1001, Integer.MIN_VALUE, Integer.MAX_VALUE};
    private static final int[] WRONG_MONEYS = {-1, 1000001, Integer.MIN_VALUE, Integer.MAX_VALUE};
    private static final int[] WRONG_FACTORS = {1, 6, 0, -2, Integer.MIN_VALUE, Integer.MAX_VALUE};
    private static final int[] WRONG_YEARS = {-1, 5, Integer.MIN_VALUE, Integer.MAX_VALUE};

    public static void main(String[] args) {
        aNewObject();
        buysAreNumbered();
        wrongTrades();
        exceptionsInTheirOrder();
        sixtyTrades();
        salesNeedAHolding();
        aLateSaleMayNotStarveLaterOnes();
        salesOfSplitShares();
        splits();
        wrongSplits();
        cancelledTrades();
        aBuyThatIsNeededStays();
        allowances();
        windows();
        CHECKS.end("EntriesTest");
    }

    private static void aNewObject() {
        GainsReckoner x = new GainsReckoner();
        CHECKS.due("new: trades", 0, () -> x.trades());
        for (int share = 0; share < 3; share++) {
            int s = share;
            CHECKS.due("new: matches", 0, () -> x.matches(s));
            CHECKS.due("new: holding", 0, () -> x.holding(s, 1824));
            CHECKS.due("new: poolUnits", 0, () -> x.poolUnits(s, 0));
            CHECKS.due("new: poolCost", 0, () -> x.poolCost(s, 1824));
            CHECKS.due("new: costIn", 0, () -> x.costIn(s));
            CHECKS.due("new: costMatched", 0, () -> x.costMatched(s));
            CHECKS.due("new: the first split", 1, () -> x.split(s, 0, 2));
        }
        for (int year = 0; year < 5; year++) {
            int y = year;
            CHECKS.due("new: net", 0, () -> x.net(y));
            CHECKS.due("new: carried", 0, () -> x.carried(y));
            CHECKS.due("new: taxable", 0, () -> x.taxable(y));
            CHECKS.due("new: allowance", 0, () -> x.setAllowance(y, 1));
        }
        CHECKS.due("new: window", 30, () -> x.setWindow(0));
        // Objects share nothing.
        CHECKS.due("another: window", 30, () -> new GainsReckoner().setWindow(3));
        CHECKS.due("another: allowance", 0, () -> new GainsReckoner().setAllowance(0, 3));
        CHECKS.due("another: split", 1, () -> new GainsReckoner().split(0, 0, 2));
    }

    private static void buysAreNumbered() {
        GainsReckoner x = new GainsReckoner();
        CHECKS.due("least buy", 0, () -> x.buy(0, 0, 1, 0));
        CHECKS.due("most buy", 1, () -> x.buy(2, 1824, 1000, 1000000));
        CHECKS.due("an earlier day later", 2, () -> x.buy(2, 1823, 7, 70));
        CHECKS.due("least sale", 3, () -> x.sell(2, 1823, 1, 0));
        CHECKS.due("most sale", 4, () -> x.sell(2, 1824, 1000, 1000000));
        CHECKS.due("splits are no trades", 1, () -> x.split(2, 1824, 2));
        CHECKS.due("next number", 5, () -> x.buy(1, 5, 5, 5));
        CHECKS.due("trades", 6, () -> x.trades());
        CHECKS.due("cost of share 0", 0, () -> x.costIn(0));
        CHECKS.due("cost of share 1", 5, () -> x.costIn(1));
        CHECKS.due("cost of share 2", 1000070, () -> x.costIn(2));
        CHECKS.due("holding of share 0", 1, () -> x.holding(0, 0));
        CHECKS.due("holding of share 2", 1012 - 1000, () -> x.holding(2, 1824));
    }

    private static void wrongTrades() {
        GainsReckoner x = new GainsReckoner();
        x.buy(0, 10, 100, 1000);
        for (int share : WRONG_SHARES) {
            CHECKS.due("buy of share " + share, Checks.INDEX, () -> x.buy(share, 10, 1, 1));
            CHECKS.due("sell of share " + share, Checks.INDEX, () -> x.sell(share, 10, 1, 1));
        }
        for (int day : WRONG_DAYS) {
            CHECKS.due("buy on day " + day, Checks.INDEX, () -> x.buy(0, day, 1, 1));
            CHECKS.due("sell on day " + day, Checks.INDEX, () -> x.sell(0, day, 1, 1));
        }
        for (int count : WRONG_COUNTS) {
            CHECKS.due("buy of " + count, Checks.ARGUMENT, () -> x.buy(0, 10, count, 1));
            CHECKS.due("sell of " + count, Checks.ARGUMENT, () -> x.sell(0, 10, count, 1));
        }
        for (int money : WRONG_MONEYS) {
            CHECKS.due("buy at " + money, Checks.ARGUMENT, () -> x.buy(0, 10, 1, money));
            CHECKS.due("sell at " + money, Checks.ARGUMENT, () -> x.sell(0, 10, 1, money));
        }
        CHECKS.due("nothing was entered", 1, () -> x.trades());
        CHECKS.due("nothing was bought or sold", 100, () -> x.holding(0, 1824));
        CHECKS.due("nothing was matched", 0, () -> x.matches(0));
        CHECKS.due("nothing was paid", 1000, () -> x.costIn(0));
    }

    private static void exceptionsInTheirOrder() {
        GainsReckoner x = new GainsReckoner();
        for (int i = 0; i < 60; i++) {
            x.buy(1, i, 1, 1);
        }
        for (int k = 1; k < 5; k++) {
            x.split(1, k, 2);
        }
        CHECKS.due("buy: share first", Checks.INDEX, () -> x.buy(3, 0, 0, -1));
        CHECKS.due("buy: day first", Checks.INDEX, () -> x.buy(0, 1825, 0, -1));
        CHECKS.due("buy: count before room", Checks.ARGUMENT, () -> x.buy(0, 0, 0, 0));
        CHECKS.due("buy: cost before room", Checks.ARGUMENT, () -> x.buy(0, 0, 1, -1));
        CHECKS.due("buy: room", Checks.STATE, () -> x.buy(0, 0, 1, 1));
        CHECKS.due("sell: share first", Checks.INDEX, () -> x.sell(-1, 0, 0, -1));
        CHECKS.due("sell: day first", Checks.INDEX, () -> x.sell(0, -1, 0, -1));
        CHECKS.due("sell: count before holding", Checks.ARGUMENT, () -> x.sell(0, 0, 1001, 0));
        CHECKS.due("sell: proceeds before holding", Checks.ARGUMENT, () -> x.sell(0, 0, 1, 1000001));
        CHECKS.due("sell: room", Checks.STATE, () -> x.sell(1, 1824, 1, 1));
        CHECKS.due("split: share first", Checks.INDEX, () -> x.split(3, 1, 1));
        CHECKS.due("split: day first", Checks.INDEX, () -> x.split(1, 1825, 1));
        CHECKS.due("split: factor before state", Checks.ARGUMENT, () -> x.split(1, 1, 6));
        CHECKS.due("split: state", Checks.STATE, () -> x.split(1, 1, 5));
        CHECKS.due("setAllowance: year first", Checks.INDEX, () -> x.setAllowance(5, -1));
        CHECKS.due("sixty trades", 60, () -> x.trades());
    }

    private static void sixtyTrades() {
        GainsReckoner x = new GainsReckoner();
        for (int i = 0; i < 59; i++) {
            int number = i;
            CHECKS.due("buy " + i, number, () -> x.buy(number % 3, 1800 - number, 1, 1));
        }
        CHECKS.due("the sixtieth", 59, () -> x.sell(0, 1800, 1, 1));
        CHECKS.due("one buy too many", Checks.STATE, () -> x.buy(0, 0, 1, 1));
        CHECKS.due("one sale too many", Checks.STATE, () -> x.sell(0, 1800, 1, 1));
        CHECKS.done("cancel", "nothing", () -> x.cancel(59));
        CHECKS.due("cancelled ones were entered too", Checks.STATE, () -> x.buy(0, 0, 1, 1));
        CHECKS.due("cancelled ones count for sales", Checks.STATE, () -> x.sell(0, 1800, 1, 1));
        CHECKS.due("trades", 60, () -> x.trades());
        CHECKS.due("a split still goes", 1, () -> x.split(0, 0, 2));
    }

    private static void salesNeedAHolding() {
        GainsReckoner x = new GainsReckoner();
        CHECKS.due("none held", Checks.STATE, () -> x.sell(0, 100, 1, 1));
        x.buy(0, 100, 10, 100);
        CHECKS.due("other shares do not help", Checks.STATE, () -> x.sell(1, 100, 1, 1));
        CHECKS.due("the day before", Checks.STATE, () -> x.sell(0, 99, 1, 1));
        CHECKS.due("one too many", Checks.STATE, () -> x.sell(0, 100, 11, 1));
        CHECKS.due("all, on the same day", 1, () -> x.sell(0, 100, 10, 1));
        CHECKS.due("one more", Checks.STATE, () -> x.sell(0, 1824, 1, 1));
        CHECKS.due("a refused sale has no number", 2, () -> x.trades());
        CHECKS.due("holding", 0, () -> x.holding(0, 100));
        x.buy(0, 101, 3, 1);
        CHECKS.due("a later buy does not help", Checks.STATE, () -> x.sell(0, 100, 1, 1));
        CHECKS.due("matches", "0 100 100 10 100 1", () -> Checks.rows(x, 0));
    }

    private static void aLateSaleMayNotStarveLaterOnes() {
        GainsReckoner x = new GainsReckoner();
        x.buy(0, 10, 10, 100);
        x.sell(0, 50, 8, 100);
        x.buy(0, 60, 5, 100);
        CHECKS.due("3 at day 20", Checks.STATE, () -> x.sell(0, 20, 3, 1));
        CHECKS.due("3 at day 50", Checks.STATE, () -> x.sell(0, 50, 3, 1));
        CHECKS.due("8 at day 60", Checks.STATE, () -> x.sell(0, 60, 8, 1));
        CHECKS.due("7 at day 60", 3, () -> x.sell(0, 60, 7, 1));
        CHECKS.due("1 at day 10", Checks.STATE, () -> x.sell(0, 10, 1, 1));
        x.buy(0, 59, 1, 1);
        CHECKS.due("a day in between helps day 60", 5, () -> x.sell(0, 50, 1, 1));
        CHECKS.due("but once", Checks.STATE, () -> x.sell(0, 50, 1, 1));
        x.cancel(3);
        CHECKS.due("2 at day 50", Checks.STATE, () -> x.sell(0, 50, 2, 1));
        CHECKS.due("1 at day 50", 6, () -> x.sell(0, 50, 1, 1));
    }

    private static void salesOfSplitShares() {
        GainsReckoner x = new GainsReckoner();
        x.buy(0, 10, 10, 100);
        x.split(0, 20, 3);
        CHECKS.due("old shares before the split", Checks.STATE, () -> x.sell(0, 19, 11, 1));
        CHECKS.due("31 new ones", Checks.STATE, () -> x.sell(0, 20, 31, 1));
        CHECKS.due("29 new ones", 1, () -> x.sell(0, 20, 29, 1));
        CHECKS.due("an old one is three", Checks.STATE, () -> x.sell(0, 19, 1, 1));
        CHECKS.due("a new one", 2, () -> x.sell(0, 1824, 1, 1));
        CHECKS.due("holding", 0, () -> x.holding(0, 1824));
    }

    private static void splits() {
        GainsReckoner x = new GainsReckoner();
        CHECKS.due("first", 1, () -> x.split(0, 0, 2));
        CHECKS.due("again on the day", Checks.STATE, () -> x.split(0, 0, 3));
        CHECKS.due("last day", 2, () -> x.split(0, 1824, 5));
        CHECKS.due("again on the last day", Checks.STATE, () -> x.split(0, 1824, 5));
        CHECKS.due("in between", 3, () -> x.split(0, 900, 3));
        CHECKS.due("another share", 1, () -> x.split(1, 900, 4));
        CHECKS.due("fourth", 4, () -> x.split(0, 901, 4));
        CHECKS.due("fifth", Checks.STATE, () -> x.split(0, 902, 2));
        CHECKS.due("another share goes on", 2, () -> x.split(1, 902, 2));
        x.buy(0, 0, 1, 1);
        CHECKS.due("day 0", 1, () -> x.holding(0, 0));
        CHECKS.due("day 899", 1, () -> x.holding(0, 899));
        CHECKS.due("day 900", 3, () -> x.holding(0, 900));
        CHECKS.due("day 901", 12, () -> x.holding(0, 901));
        CHECKS.due("day 1823", 12, () -> x.holding(0, 1823));
        CHECKS.due("day 1824", 60, () -> x.holding(0, 1824));
    }

    private static void wrongSplits() {
        GainsReckoner x = new GainsReckoner();
        x.buy(0, 0, 10, 10);
        for (int share : WRONG_SHARES) {
            CHECKS.due("split of share " + share, Checks.INDEX, () -> x.split(share, 10, 2));
        }
        for (int day : WRONG_DAYS) {
            CHECKS.due("split on day " + day, Checks.INDEX, () -> x.split(0, day, 2));
        }
        for (int factor : WRONG_FACTORS) {
            CHECKS.due("split by " + factor, Checks.ARGUMENT, () -> x.split(0, 10, factor));
        }
        CHECKS.due("no split was entered", 10, () -> x.holding(0, 1824));
        CHECKS.due("the first one", 1, () -> x.split(0, 10, 2));
        CHECKS.due("by 5", 2, () -> x.split(0, 11, 5));
        CHECKS.due("holding", 100, () -> x.holding(0, 1824));
    }

    private static void cancelledTrades() {
        GainsReckoner x = new GainsReckoner();
        CHECKS.done("none yet", Checks.INDEX, () -> x.cancel(0));
        x.buy(0, 10, 10, 1000);
        x.buy(0, 10, 5, 800);
        x.sell(0, 10, 3, 900);
        CHECKS.due("with both buys", "0 10 10 3 360 900", () -> Checks.rows(x, 0));
        for (int trade : new int[] {-1, 3, Integer.MIN_VALUE, Integer.MAX_VALUE}) {
            CHECKS.done("cancel of " + trade, Checks.INDEX, () -> x.cancel(trade));
        }
        CHECKS.done("the second buy", "nothing", () -> x.cancel(1));
        CHECKS.due("as if not entered", "0 10 10 3 300 900", () -> Checks.rows(x, 0));
        CHECKS.due("cost without it", 1000, () -> x.costIn(0));
        CHECKS.due("holding without it", 7, () -> x.holding(0, 10));
        CHECKS.done("twice", Checks.STATE, () -> x.cancel(1));
        CHECKS.due("the number stays", 3, () -> x.trades());
        CHECKS.due("the next number", 3, () -> x.buy(0, 10, 5, 800));
        CHECKS.due("with it again", "0 10 10 3 360 900", () -> Checks.rows(x, 0));
        CHECKS.done("the sale", "nothing", () -> x.cancel(2));
        CHECKS.due("no sale", 0, () -> x.matches(0));
        CHECKS.due("all is held", 15, () -> x.holding(0, 10));
        CHECKS.due("all is in the pool", 1800, () -> x.poolCost(0, 10));
        CHECKS.done("the sale twice", Checks.STATE, () -> x.cancel(2));
        x.cancel(0);
        x.cancel(3);
        CHECKS.due("nothing is held", 0, () -> x.holding(0, 1824));
        CHECKS.due("nothing is in the pool", 0, () -> x.poolUnits(0, 1824));
        CHECKS.due("four were entered", 4, () -> x.trades());
    }

    private static void aBuyThatIsNeededStays() {
        GainsReckoner x = new GainsReckoner();
        x.buy(0, 10, 10, 100);
        x.buy(1, 10, 10, 100);
        x.buy(0, 40, 10, 300);
        x.sell(0, 30, 10, 500);
        CHECKS.done("needed on day 30", Checks.STATE, () -> x.cancel(0));
        CHECKS.due("it still counts", 400, () -> x.costIn(0));
        CHECKS.done("another share's", "nothing", () -> x.cancel(1));
        CHECKS.due("matched to the later buy", "1 30 40 10 300 500", () -> Checks.rows(x, 0));
        CHECKS.done("matched, but not needed", "nothing", () -> x.cancel(2));
        CHECKS.due("matched to the pool", "2 30 -1 10 100 500", () -> Checks.rows(x, 0));
        CHECKS.done("still needed", Checks.STATE, () -> x.cancel(0));
        x.split(0, 20, 2);
        CHECKS.due("half is held", 10, () -> x.holding(0, 30));
        x.buy(0, 25, 9, 90);
        CHECKS.done("its 20 units are needed", Checks.STATE, () -> x.cancel(0));
        x.buy(0, 25, 1, 10);
        CHECKS.done("no longer", "nothing", () -> x.cancel(0));
        CHECKS.due("nothing is left", 0, () -> x.holding(0, 30));
        CHECKS.due("the pool of the new buys", "2 30 -1 10 100 500", () -> Checks.rows(x, 0));
    }

    private static void allowances() {
        GainsReckoner x = new GainsReckoner();
        for (int year = 0; year < 5; year++) {
            int y = year;
            CHECKS.due("before the first", 0, () -> x.setAllowance(y, 100 + y));
        }
        for (int year = 0; year < 5; year++) {
            int y = year;
            CHECKS.due("each year its own", 100 + y, () -> x.setAllowance(y, 1000000));
        }
        CHECKS.due("down to 0", 1000000, () -> x.setAllowance(4, 0));
        for (int money : WRONG_MONEYS) {
            CHECKS.due("allowance of " + money, Checks.ARGUMENT, () -> x.setAllowance(0, money));
        }
        for (int year : WRONG_YEARS) {
            CHECKS.due("allowance of year " + year, Checks.INDEX, () -> x.setAllowance(year, 7));
        }
        CHECKS.due("unchanged", 1000000, () -> x.setAllowance(0, 0));
        CHECKS.due("and 0", 0, () -> x.setAllowance(4, 0));
    }

    private static void windows() {
        GainsReckoner x = new GainsReckoner();
        x.buy(0, 0, 10, 100);
        x.buy(2, 0, 10, 100);
        x.sell(0, 10, 5, 500);
        x.sell(2, 10, 5, 500);
        x.buy(0, 40, 5, 77);
        x.buy(2, 70, 5, 88);
        CHECKS.due("30 days: the last day counts", "1 10 40 5 77 500", () -> Checks.rows(x, 0));
        CHECKS.due("30 days: too late", "2 10 -1 5 50 500", () -> Checks.rows(x, 2));
        CHECKS.due("29 days", 30, () -> x.setWindow(29));
        CHECKS.due("29 days: just too late", "2 10 -1 5 50 500", () -> Checks.rows(x, 0));
        CHECKS.due("most", 29, () -> x.setWindow(60));
        CHECKS.due("60 days: share 0", "1 10 40 5 77 500", () -> Checks.rows(x, 0));
        CHECKS.due("60 days: share 2", "1 10 70 5 88 500", () -> Checks.rows(x, 2));
        for (int days : new int[] {-1, 61, Integer.MIN_VALUE, Integer.MAX_VALUE}) {
            CHECKS.due("window of " + days, Checks.ARGUMENT, () -> x.setWindow(days));
        }
        CHECKS.due("unchanged", "1 10 70 5 88 500", () -> Checks.rows(x, 2));
        CHECKS.due("none", 60, () -> x.setWindow(0));
        CHECKS.due("0 days", "2 10 -1 5 50 500", () -> Checks.rows(x, 0));
        CHECKS.due("still 0", 0, () -> x.setWindow(30));
        x.buy(0, 11, 2, 44);
        CHECKS.due("a trade keeps the window", "1 10 11 2 44 200; 1 10 40 3 46 300", () -> Checks.rows(x, 0));
    }
}
