/**
 * The edges that the document names about holdings, pools and costs: promises 9 to 13. Each test
 * stands under the words that it holds.
 */
public final class EdgesOfHoldingsTest {
    private static final Checks CHECKS = new Checks();

    public static void main(String[] args) {
        holdingsAroundATrade();
        holdingsOnTheFirstAndTheLastDay();
        holdingsOfExactlyZero();
        holdingsAroundASplit();
        holdingsWithFourSplits();
        holdingsOfTheMost();
        poolsAroundATrade();
        poolsOnTheFirstAndTheLastDay();
        poolsAtTheEndOfADay();
        poolsDoNotFeelWhatLaterBuysTake();
        poolsThatAreEmptied();
        poolsInUnitsOfAllSplits();
        poolsOfTheMost();
        poolsOfEveryDay();
        costInOfNoneAndTheMost();
        costInWithoutCancelledOnes();
        costMatchedOfNoneAndAll();
        costMatchedOfEveryKind();
        wrongSharesAndDays();
        CHECKS.end("EdgesOfHoldingsTest");
    }

    private static void holdings(String what, GainsReckoner x, int share, int[] days, int[] due) {
        for (int i = 0; i < days.length; i++) {
            int day = days[i];
            CHECKS.due(what + ": holding on day " + day, due[i], () -> x.holding(share, day));
        }
    }

    private static void pools(String what, GainsReckoner x, int share, int[] days, int[] units, int[] costs) {
        for (int i = 0; i < days.length; i++) {
            int day = days[i];
            CHECKS.due(what + ": poolUnits on day " + day, units[i], () -> x.poolUnits(share, day));
            CHECKS.due(what + ": poolCost on day " + day, costs[i], () -> x.poolCost(share, day));
        }
    }

    /** "at the end of a day: the shares bought up to then less those sold up to then". */
    private static void holdingsAroundATrade() {
        GainsReckoner x = new GainsReckoner();
        x.buy(0, 100, 7, 7);
        x.sell(0, 102, 1, 5);
        holdings("a buy and a sale", x, 0, new int[] {0, 99, 100, 101, 102, 103, 1824}, new int[] {0, 0, 7, 7, 6, 6, 6});
        x.buy(0, 102, 4, 4);
        x.sell(0, 102, 2, 2);
        holdings("more on the day", x, 0, new int[] {101, 102, 103}, new int[] {7, 8, 8});
        x.cancel(2);
        holdings("one less", x, 0, new int[] {101, 102, 103}, new int[] {7, 4, 4});
    }

    /** "0 to 1824". */
    private static void holdingsOnTheFirstAndTheLastDay() {
        GainsReckoner x = new GainsReckoner();
        x.buy(0, 0, 3, 3);
        x.buy(0, 1824, 5, 5);
        holdings("buys", x, 0, new int[] {0, 1, 1823, 1824}, new int[] {3, 3, 3, 8});
        x.sell(0, 0, 2, 2);
        x.sell(0, 1824, 4, 4);
        holdings("and sales", x, 0, new int[] {0, 1, 1823, 1824}, new int[] {1, 1, 1, 2});
    }

    private static void holdingsOfExactlyZero() {
        GainsReckoner x = new GainsReckoner();
        x.buy(0, 10, 5, 5);
        x.sell(0, 20, 5, 5);
        x.buy(0, 30, 1, 1);
        x.sell(0, 30, 1, 1);
        x.buy(0, 1824, 2, 2);
        holdings("in between", x, 0, new int[] {9, 10, 19, 20, 29, 30, 1823, 1824}, new int[] {0, 5, 5, 0, 0, 0, 0, 2});
        x.split(0, 25, 5);
        holdings("a split of none", x, 0, new int[] {10, 20, 25, 1823, 1824}, new int[] {5, 0, 0, 0, 2});
    }

    /** "splits counted"; "the number of shares, as they are on that day". */
    private static void holdingsAroundASplit() {
        GainsReckoner x = new GainsReckoner();
        x.buy(0, 49, 1, 1);
        x.buy(0, 50, 1, 1);
        x.buy(0, 51, 1, 1);
        x.split(0, 50, 4);
        holdings("before, on and after", x, 0, new int[] {48, 49, 50, 51, 1824}, new int[] {0, 1, 5, 6, 6});
        x.sell(0, 49, 1, 1);
        holdings("less the first", x, 0, new int[] {48, 49, 50, 51, 1824}, new int[] {0, 0, 1, 2, 2});
        x.split(1, 50, 5);
        holdings("another's split", x, 0, new int[] {49, 50, 51}, new int[] {0, 1, 2});
    }

    private static void holdingsWithFourSplits() {
        GainsReckoner x = new GainsReckoner();
        x.buy(2, 0, 1, 1);
        x.split(2, 1824, 5);
        x.split(2, 1, 2);
        x.split(2, 1000, 3);
        x.split(2, 999, 4);
        holdings("one of day 0", x, 2, new int[] {0, 1, 998, 999, 1000, 1823, 1824}, new int[] {1, 2, 2, 8, 24, 24, 120});
        x.sell(2, 1000, 23, 1);
        holdings("less 23 of 24", x, 2, new int[] {999, 1000, 1823, 1824}, new int[] {8, 1, 1, 5});
    }

    /** 60 buys of 1000 shares, four splits by 5. */
    private static GainsReckoner most() {
        GainsReckoner x = new GainsReckoner();
        for (int i = 0; i < 60; i++) {
            x.buy(1, 0, 1000, 1000000);
        }
        for (int day = 1; day <= 4; day++) {
            x.split(1, day, 5);
        }
        return x;
    }

    private static void holdingsOfTheMost() {
        holdings("the most", most(), 1, new int[] {0, 1, 2, 3, 4, 1824},
            new int[] {60000, 300000, 1500000, 7500000, 37500000, 37500000});
    }

    /** "the units of a share at the end of a day that are in its pool"; "the cost that is in the pool". */
    private static void poolsAroundATrade() {
        GainsReckoner x = new GainsReckoner();
        x.buy(0, 100, 4, 42);
        x.sell(0, 200, 1, 5);
        x.buy(0, 300, 2, 9);
        // 42 / 4 = 10 are taken.
        pools("three trades", x, 0, new int[] {0, 99, 100, 101, 199, 200, 201, 299, 300, 301, 1824},
            new int[] {0, 0, 4, 4, 4, 3, 3, 3, 5, 5, 5}, new int[] {0, 0, 42, 42, 42, 32, 32, 32, 41, 41, 41});
        x.cancel(2);
        pools("two", x, 0, new int[] {299, 300, 1824}, new int[] {3, 3, 3}, new int[] {32, 32, 32});
    }

    private static void poolsOnTheFirstAndTheLastDay() {
        GainsReckoner x = new GainsReckoner();
        pools("no trade", x, 0, new int[] {0, 1824}, new int[] {0, 0}, new int[] {0, 0});
        x.buy(0, 1824, 2, 20);
        pools("last day", x, 0, new int[] {0, 1823, 1824}, new int[] {0, 0, 2}, new int[] {0, 0, 20});
        x.buy(0, 0, 3, 30);
        pools("first day", x, 0, new int[] {0, 1, 1823, 1824}, new int[] {3, 3, 3, 5}, new int[] {30, 30, 30, 50});
        x.sell(0, 1824, 4, 1);
        pools("sold on the last day", x, 0, new int[] {0, 1823, 1824}, new int[] {3, 3, 1}, new int[] {30, 30, 10});
    }

    /** "at the end of a day": what is bought and sold on the day has come and gone. */
    private static void poolsAtTheEndOfADay() {
        GainsReckoner x = new GainsReckoner();
        x.buy(0, 10, 6, 60);
        x.sell(0, 20, 2, 1);
        x.buy(0, 20, 2, 99);
        pools("even", x, 0, new int[] {19, 20}, new int[] {6, 6}, new int[] {60, 60});
        x.buy(0, 20, 1, 9);
        // 108 for three: two of them cost 72.
        pools("one more bought", x, 0, new int[] {19, 20}, new int[] {6, 7}, new int[] {60, 96});
        x.sell(0, 20, 2, 1);
        pools("one more sold", x, 0, new int[] {19, 20}, new int[] {6, 5}, new int[] {60, 50});
    }

    /** What later buys are matched to has not gone from the pool, though it has from the holding. */
    private static void poolsDoNotFeelWhatLaterBuysTake() {
        GainsReckoner x = new GainsReckoner();
        x.buy(0, 10, 6, 60);
        x.sell(0, 20, 6, 1);
        x.buy(0, 50, 4, 99);
        pools("four are matched later", x, 0, new int[] {19, 20, 49, 50}, new int[] {6, 4, 4, 4}, new int[] {60, 40, 40, 40});
        holdings("none is held", x, 0, new int[] {19, 20, 49, 50}, new int[] {6, 0, 0, 4});
        x.setWindow(29);
        pools("one day less", x, 0, new int[] {19, 20, 49, 50}, new int[] {6, 0, 0, 4}, new int[] {60, 0, 0, 99});
    }

    private static void poolsThatAreEmptied() {
        GainsReckoner x = new GainsReckoner();
        x.buy(0, 10, 3, 100);
        x.sell(0, 200, 2, 1);
        x.sell(0, 300, 1, 1);
        x.buy(0, 400, 1, 7);
        x.sell(0, 500, 1, 1);
        pools("twice", x, 0, new int[] {199, 200, 299, 300, 399, 400, 499, 500, 1824},
            new int[] {3, 1, 1, 0, 0, 1, 1, 0, 0}, new int[] {100, 34, 34, 0, 0, 7, 7, 0, 0});
        CHECKS.due("all cost is matched", 107, () -> x.costMatched(0));
    }

    /** Units count all later splits, also those after the day that is asked for. */
    private static void poolsInUnitsOfAllSplits() {
        GainsReckoner x = new GainsReckoner();
        x.buy(0, 10, 2, 20);
        x.split(0, 20, 3);
        x.split(0, 1824, 2);
        x.buy(0, 20, 1, 4);
        x.buy(0, 1824, 1, 5);
        pools("three buys", x, 0, new int[] {9, 10, 19, 20, 1823, 1824}, new int[] {0, 12, 12, 14, 14, 15},
            new int[] {0, 20, 20, 24, 24, 29});
        holdings("three buys", x, 0, new int[] {9, 10, 19, 20, 1823, 1824}, new int[] {0, 2, 2, 7, 7, 15});
    }

    private static void poolsOfTheMost() {
        GainsReckoner x = most();
        pools("the most", x, 1, new int[] {0, 4, 1824}, new int[] {37500000, 37500000, 37500000},
            new int[] {60000000, 60000000, 60000000});
        CHECKS.due("costIn", 60000000, () -> x.costIn(1));
        x.cancel(59);
        pools("one less", x, 1, new int[] {0, 1824}, new int[] {36875000, 36875000}, new int[] {59000000, 59000000});
        GainsReckoner y = new GainsReckoner();
        for (int i = 0; i < 59; i++) {
            y.buy(1, 0, 1000, 1000000);
        }
        y.sell(1, 900, 1000, 1000000);
        for (int day = 901; day <= 904; day++) {
            y.split(1, day, 5);
        }
        pools("a large sale", y, 1, new int[] {899, 900}, new int[] {36875000, 36250000}, new int[] {59000000, 58000000});
    }

    /** A buy on each of sixty days; each day, and the one before it. */
    private static void poolsOfEveryDay() {
        GainsReckoner x = new GainsReckoner();
        for (int i = 59; i >= 0; i--) {
            x.buy(0, 2 * i + 1, 1, 10);
        }
        for (int i = 0; i < 60; i++) {
            pools("sixty days", x, 0, new int[] {2 * i, 2 * i + 1}, new int[] {i, i + 1}, new int[] {10 * i, 10 * i + 10});
        }
        holdings("sixty days", x, 0, new int[] {0, 1, 118, 119, 1824}, new int[] {0, 1, 59, 60, 60});
    }

    /** costIn: "what all buys of a share cost". */
    private static void costInOfNoneAndTheMost() {
        GainsReckoner x = new GainsReckoner();
        for (int share = 0; share < 3; share++) {
            int s = share;
            CHECKS.due("none", 0, () -> x.costIn(s));
            x.buy(s, 0, 1000, 0);
            CHECKS.due("for nothing", 0, () -> x.costIn(s));
            x.buy(s, 1824, 1, 1000000);
            CHECKS.due("the most", 1000000, () -> x.costIn(s));
            x.sell(s, 1824, 1, 999);
            x.split(s, 1, 2);
            CHECKS.due("sales and splits do not matter", 1000000, () -> x.costIn(s));
        }
    }

    /** costIn: "that were not cancelled". */
    private static void costInWithoutCancelledOnes() {
        GainsReckoner x = new GainsReckoner();
        x.buy(0, 0, 1, 1);
        x.buy(0, 0, 1, 20);
        x.buy(0, 5, 1, 300);
        x.sell(0, 5, 1, 4000);
        int[] cancelled = {3, 0, 2, 1};
        int[] left = {321, 320, 20, 0};
        for (int i = 0; i < 4; i++) {
            x.cancel(cancelled[i]);
            CHECKS.due("without " + cancelled[i], left[i], () -> x.costIn(0));
        }
    }

    /** costMatched: "the cost of all matches of a share". */
    private static void costMatchedOfNoneAndAll() {
        GainsReckoner x = new GainsReckoner();
        CHECKS.due("no trade", 0, () -> x.costMatched(0));
        x.buy(0, 10, 3, 100);
        CHECKS.due("no match", 0, () -> x.costMatched(0));
        x.sell(0, 20, 1, 1);
        CHECKS.due("a third", 33, () -> x.costMatched(0));
        x.sell(0, 30, 2, 1);
        CHECKS.due("all", 100, () -> x.costMatched(0));
        CHECKS.due("another share", 0, () -> x.costMatched(1));
        x.cancel(1);
        CHECKS.due("two thirds", 66, () -> x.costMatched(0));
        x.cancel(2);
        CHECKS.due("no match again", 0, () -> x.costMatched(0));
        GainsReckoner y = new GainsReckoner();
        for (int i = 0; i < 59; i++) {
            y.buy(2, i, 1, 1000000);
        }
        y.sell(2, 1824, 59, 0);
        CHECKS.due("the most", 59000000, () -> y.costMatched(2));
    }

    private static void costMatchedOfEveryKind() {
        GainsReckoner x = new GainsReckoner();
        x.buy(0, 0, 10, 1000);
        x.sell(0, 100, 3, 1);
        CHECKS.due("the pool", 300, () -> x.costMatched(0));
        x.buy(0, 100, 1, 7);
        CHECKS.due("the same day and the pool", 207, () -> x.costMatched(0));
        x.buy(0, 130, 1, 20);
        CHECKS.due("all kinds", 127, () -> x.costMatched(0));
        x.setWindow(29);
        CHECKS.due("without the later one", 207, () -> x.costMatched(0));
    }

    /** "IndexOutOfBoundsException if there is no such share or day", with trades on the edges. */
    private static void wrongSharesAndDays() {
        GainsReckoner x = new GainsReckoner();
        for (int share = 0; share < 3; share++) {
            x.buy(share, 0, 1, 1);
            x.buy(share, 1824, 1, 1);
        }
        int[][] wrong = {{-1, 0}, {3, 0}, {-1, 1824}, {3, 1824}, {0, -1}, {2, -1}, {0, 1825}, {2, 1825}, {3, 1825}};
        for (int[] w : wrong) {
            String where = " of share " + w[0] + " on day " + w[1];
            CHECKS.due("holding" + where, Checks.INDEX, () -> x.holding(w[0], w[1]));
            CHECKS.due("poolUnits" + where, Checks.INDEX, () -> x.poolUnits(w[0], w[1]));
            CHECKS.due("poolCost" + where, Checks.INDEX, () -> x.poolCost(w[0], w[1]));
        }
        for (int share : new int[] {-1, 3}) {
            CHECKS.due("costIn of share " + share, Checks.INDEX, () -> x.costIn(share));
            CHECKS.due("costMatched of share " + share, Checks.INDEX, () -> x.costMatched(share));
        }
    }
}
