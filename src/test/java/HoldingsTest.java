/** Promises 9 to 13: holding, poolUnits, poolCost, costIn, costMatched. */
public final class HoldingsTest {
    private static final Checks CHECKS = new Checks();
    private static final int[] WRONG_SHARES = {-1, 3, Integer.MIN_VALUE, Integer.MAX_VALUE};
    private static final int[] WRONG_DAYS = {-1, 1825, Integer.MIN_VALUE, Integer.MAX_VALUE};

    public static void main(String[] args) {
        holdings();
        holdingsOfSplitShares();
        thePool();
        thePoolOfSplitShares();
        thePoolGetsWhatIsLeft();
        theLargestNumbers();
        sixtyDays();
        costs();
        wrongCalls();
        CHECKS.end("HoldingsTest");
    }

    private static void holdings() {
        GainsReckoner x = new GainsReckoner();
        x.buy(1, 1824, 4, 1);
        x.buy(1, 100, 20, 1);
        x.sell(1, 200, 7, 1);
        x.buy(1, 200, 2, 1);
        x.buy(0, 0, 99, 1);
        int[] days = {0, 99, 100, 199, 200, 1823, 1824};
        int[] held = {0, 0, 20, 20, 15, 15, 19};
        for (int i = 0; i < days.length; i++) {
            int day = days[i];
            CHECKS.due("holding on day " + day, held[i], () -> x.holding(1, day));
        }
        CHECKS.due("holding of share 0", 99, () -> x.holding(0, 0));
        CHECKS.due("holding of share 2", 0, () -> x.holding(2, 1824));
    }

    private static void holdingsOfSplitShares() {
        GainsReckoner x = new GainsReckoner();
        x.buy(0, 10, 10, 1);
        x.buy(0, 20, 1, 1);
        x.split(0, 20, 2);
        x.sell(0, 30, 3, 1);
        x.split(0, 30, 5);
        x.split(1, 10, 3);
        CHECKS.due("before", 10, () -> x.holding(0, 19));
        CHECKS.due("a buy of the split's day is in new shares", 21, () -> x.holding(0, 20));
        CHECKS.due("the day before the next", 21, () -> x.holding(0, 29));
        CHECKS.due("a sale of the split's day is in new shares", 102, () -> x.holding(0, 30));
        CHECKS.due("pool in units of the last shares", 100, () -> x.poolUnits(0, 10));
        CHECKS.due("pool with the second buy", 105, () -> x.poolUnits(0, 20));
        CHECKS.due("pool after the sale", 102, () -> x.poolUnits(0, 30));
    }

    private static void thePool() {
        GainsReckoner x = new GainsReckoner();
        x.buy(0, 100, 3, 100);
        x.buy(0, 200, 4, 101);
        x.sell(0, 300, 2, 1000);
        x.sell(0, 400, 2, 1000);
        x.buy(0, 500, 1, 50);
        x.sell(0, 600, 4, 1);
        // 201 * 2 / 7 = 57, then 144 * 2 / 5 = 57, then (87 + 50) * 4 / 4.
        int[] days = {99, 100, 199, 200, 299, 300, 399, 400, 499, 500, 599, 600, 1824};
        int[] units = {0, 3, 3, 7, 7, 5, 5, 3, 3, 4, 4, 0, 0};
        int[] costs = {0, 100, 100, 201, 201, 144, 144, 87, 87, 137, 137, 0, 0};
        for (int i = 0; i < days.length; i++) {
            int day = days[i];
            CHECKS.due("poolUnits on day " + day, units[i], () -> x.poolUnits(0, day));
            CHECKS.due("poolCost on day " + day, costs[i], () -> x.poolCost(0, day));
        }
        CHECKS.due("matches", "2 300 -1 2 57 1000; 2 400 -1 2 57 1000; 2 600 -1 4 137 1", () -> Checks.rows(x, 0));
        CHECKS.due("costMatched", 251, () -> x.costMatched(0));
        CHECKS.due("costIn", 251, () -> x.costIn(0));
        CHECKS.due("another share's pool", 0, () -> x.poolUnits(1, 200));
    }

    private static void thePoolOfSplitShares() {
        GainsReckoner x = new GainsReckoner();
        x.buy(2, 0, 5, 1000);
        CHECKS.due("unsplit", 5, () -> x.poolUnits(2, 0));
        x.split(2, 1824, 5);
        CHECKS.due("units of earlier days change too", 25, () -> x.poolUnits(2, 0));
        CHECKS.due("the holding of that day does not", 5, () -> x.holding(2, 0));
        CHECKS.due("the cost does not", 1000, () -> x.poolCost(2, 0));
        x.sell(2, 1824, 7, 900);
        CHECKS.due("units left", 18, () -> x.poolUnits(2, 1824));
        CHECKS.due("cost left", 720, () -> x.poolCost(2, 1824));
        CHECKS.due("the day before", 1000, () -> x.poolCost(2, 1823));
    }

    private static void thePoolGetsWhatIsLeft() {
        GainsReckoner x = new GainsReckoner();
        x.buy(0, 0, 10, 1000);
        x.sell(0, 50, 4, 400);
        x.buy(0, 60, 7, 100);
        x.sell(0, 60, 2, 60);
        // The buy of day 60: 2 units of 7 to its own day, 4 to day 50, 1 into the pool.
        CHECKS.due("matches", "1 50 60 4 57 400; 0 60 60 2 28 60", () -> Checks.rows(x, 0));
        CHECKS.due("the pool waits", 10, () -> x.poolUnits(0, 59));
        CHECKS.due("the holding does not", 6, () -> x.holding(0, 59));
        CHECKS.due("one unit more", 11, () -> x.poolUnits(0, 60));
        CHECKS.due("with the rest of the cost", 1015, () -> x.poolCost(0, 60));
        CHECKS.due("costMatched", 85, () -> x.costMatched(0));
        CHECKS.due("costIn", 1100, () -> x.costIn(0));
    }

    private static void theLargestNumbers() {
        GainsReckoner x = new GainsReckoner();
        for (int day = 1; day < 5; day++) {
            x.split(0, day, 5);
        }
        for (int i = 0; i < 58; i++) {
            x.buy(0, 0, 1000, 1000000);
        }
        CHECKS.due("units", 36250000, () -> x.poolUnits(0, 0));
        CHECKS.due("cost", 58000000, () -> x.poolCost(0, 0));
        CHECKS.due("holding", 36250000, () -> x.holding(0, 4));
        CHECKS.due("holding on day 0", 58000, () -> x.holding(0, 0));
        x.sell(0, 0, 999, 1000000);
        x.sell(0, 1824, 1000, 1);
        // 999 * 625 units on day 0, then 1000 of the 35625625 that are left.
        CHECKS.due("matches", "0 0 0 624375 999000 1000000; 2 1824 -1 1000 1600 1", () -> Checks.rows(x, 0));
        CHECKS.due("units left", 35624625, () -> x.poolUnits(0, 1824));
        CHECKS.due("cost left", 56999400, () -> x.poolCost(0, 1824));
        CHECKS.due("costIn", 58000000, () -> x.costIn(0));
        CHECKS.due("costMatched", 1000600, () -> x.costMatched(0));
    }

    private static void sixtyDays() {
        GainsReckoner x = new GainsReckoner();
        for (int i = 59; i >= 0; i--) {
            x.buy(0, 1 + 30 * i, 1, i + 1);
        }
        CHECKS.due("none on day 0", 0, () -> x.holding(0, 0));
        CHECKS.due("no pool on day 0", 0, () -> x.poolUnits(0, 0));
        CHECKS.due("one on day 1", 1, () -> x.holding(0, 30));
        CHECKS.due("holding", 60, () -> x.holding(0, 1824));
        CHECKS.due("poolUnits", 60, () -> x.poolUnits(0, 1824));
        CHECKS.due("poolCost", 1830, () -> x.poolCost(0, 1824));
        CHECKS.due("the day before the last", 1770, () -> x.poolCost(0, 1770));
        CHECKS.due("costIn", 1830, () -> x.costIn(0));
        CHECKS.done("the last day's", "nothing", () -> x.cancel(0));
        CHECKS.done("the first day's", "nothing", () -> x.cancel(59));
        CHECKS.due("two less", 58, () -> x.holding(0, 1824));
        CHECKS.due("their cost is gone", 1830 - 61, () -> x.costIn(0));
        CHECKS.due("nothing on the first day", 0, () -> x.poolUnits(0, 30));
    }

    private static void costs() {
        GainsReckoner x = new GainsReckoner();
        x.buy(0, 5, 1, 10);
        x.buy(0, 5, 1, 20);
        x.buy(1, 7, 1, 40);
        x.sell(0, 900, 1, 500);
        CHECKS.due("sales cost nothing", 30, () -> x.costIn(0));
        CHECKS.due("each share its own", 40, () -> x.costIn(1));
        CHECKS.due("none", 0, () -> x.costIn(2));
        CHECKS.due("matched", 15, () -> x.costMatched(0));
        CHECKS.due("not matched", 0, () -> x.costMatched(1));
        x.cancel(0);
        CHECKS.due("cancelled buys cost nothing", 20, () -> x.costIn(0));
        CHECKS.due("matched to what is left", 20, () -> x.costMatched(0));
        x.cancel(3);
        CHECKS.due("no sale, no match", 0, () -> x.costMatched(0));
    }

    private static void wrongCalls() {
        GainsReckoner x = new GainsReckoner();
        x.buy(0, 0, 1, 1);
        for (int share : WRONG_SHARES) {
            CHECKS.due("holding of share " + share, Checks.INDEX, () -> x.holding(share, 0));
            CHECKS.due("poolUnits of share " + share, Checks.INDEX, () -> x.poolUnits(share, 0));
            CHECKS.due("poolCost of share " + share, Checks.INDEX, () -> x.poolCost(share, 0));
            CHECKS.due("costIn of share " + share, Checks.INDEX, () -> x.costIn(share));
            CHECKS.due("costMatched of share " + share, Checks.INDEX, () -> x.costMatched(share));
        }
        for (int day : WRONG_DAYS) {
            CHECKS.due("holding on day " + day, Checks.INDEX, () -> x.holding(0, day));
            CHECKS.due("poolUnits on day " + day, Checks.INDEX, () -> x.poolUnits(0, day));
            CHECKS.due("poolCost on day " + day, Checks.INDEX, () -> x.poolCost(0, day));
        }
    }
}
