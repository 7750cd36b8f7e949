/**
 * The edges that the document names about matches: of "Terms" from "Splits" to "Matches", and of
 * promises 14 to 20. Each test stands under the words that it holds. Rows are those of Checks.rows:
 * kind, sale day, buy day, units, cost, proceeds.
 */
public final class EdgesOfMatchesTest {
    private static final Checks CHECKS = new Checks();
    private static final int MIN = Integer.MIN_VALUE;
    private static final int MAX = Integer.MAX_VALUE;

    public static void main(String[] args) {
        unitsWithoutAndWithSplits();
        unitsOfTheDaysAroundASplit();
        unitsFollowALateSplit();
        buysOfADayAreOne();
        salesOfADayAreOne();
        sameDayJustEnough();
        sameDayOnTheFirstAndTheLastDay();
        allSameDaysComeBeforeLaterOnes();
        theLastDayOfTheWindow();
        theWindowAtTheEndOfTheDays();
        theWindowOfNoDays();
        theWindowIsOfAllShares();
        buysBeforeTheSaleAreNotLater();
        earlierSalesTakeFirst();
        earlierBuysAreTakenFirst();
        justEnoughOfALaterBuy();
        theWindowAcrossASplit();
        thePoolTakesAllThatIsLeft();
        thePoolRoundsDown();
        salesTakeFromThePoolByRisingDays();
        theOrderOfACost();
        theCostOfLargeParts();
        theOrderOfTheProceeds();
        costAndProceedsOfZero();
        partsAddUp();
        noMatchAtAll();
        theLastMatch();
        theMostMatches();
        matchesOfEachShare();
        theOrderOfTheMatches();
        CHECKS.end("EdgesOfMatchesTest");
    }

    /** "counts as many units as the product of the factors .. (1 without any)". */
    private static void unitsWithoutAndWithSplits() {
        int[][] splits = {{}, {2}, {2, 3}, {2, 3, 4}, {2, 3, 4, 5}, {5, 5, 5, 5}};
        int[] units = {7, 14, 42, 168, 840, 4375};
        for (int i = 0; i < splits.length; i++) {
            GainsReckoner x = new GainsReckoner();
            x.buy(0, 0, 9, 1);
            x.sell(0, 0, 7, 1);
            for (int k = 0; k < splits[i].length; k++) {
                x.split(0, 100 - k, splits[i][k]);
            }
            CHECKS.due(splits[i].length + " splits", units[i], () -> x.unitsOf(0, 0));
        }
    }

    /** "all splits of its kind with later days": the trade's own day is not later. */
    private static void unitsOfTheDaysAroundASplit() {
        for (int day = 49; day <= 51; day++) {
            int d = day;
            GainsReckoner x = new GainsReckoner();
            x.buy(0, d, 3, 1);
            x.sell(0, d, 2, 1);
            x.split(0, 50, 4);
            x.split(1, 1824, 5);
            CHECKS.due("sold on day " + d, d < 50 ? 8 : 2, () -> x.unitsOf(0, 0));
            CHECKS.due("left on day " + d, d < 50 ? 4 : 1, () -> x.poolUnits(0, d));
        }
        GainsReckoner y = new GainsReckoner();
        y.split(0, 0, 5);
        y.split(0, 1824, 3);
        y.buy(0, 0, 1, 1);
        y.sell(0, 0, 1, 1);
        y.buy(0, 1824, 1, 1);
        y.sell(0, 1824, 1, 1);
        CHECKS.due("a split of day 0 is later than no day", "0 0 0 3 1 1; 0 1824 1824 1 1 1", () -> Checks.rows(y, 0));
    }

    /** "all matches are always those that the trades as they are lead to": splits may come late too. */
    private static void unitsFollowALateSplit() {
        GainsReckoner x = new GainsReckoner();
        x.buy(0, 10, 2, 10);
        x.sell(0, 10, 1, 5);
        x.sell(0, 20, 1, 7);
        CHECKS.due("no split", "0 10 10 1 5 5; 2 20 -1 1 5 7", () -> Checks.rows(x, 0));
        x.split(0, 21, 3);
        CHECKS.due("all are earlier", "0 10 10 3 5 5; 2 20 -1 3 5 7", () -> Checks.rows(x, 0));
        // The new shares of day 20 are a half of the old ones.
        x.split(0, 20, 2);
        CHECKS.due("one is on the day", "0 10 10 6 5 5; 2 20 -1 3 2 7", () -> Checks.rows(x, 0));
        CHECKS.due("half a share is left", 3, () -> x.poolCost(0, 20));
        CHECKS.due("it is one new share", 1, () -> x.holding(0, 20));
    }

    /** "All buys of a share on a day count as one buy, with their units and costs added up". */
    private static void buysOfADayAreOne() {
        GainsReckoner x = new GainsReckoner();
        x.buy(0, 10, 1, 1);
        x.buy(0, 10, 2, 1);
        x.sell(0, 10, 1, 9);
        // 2 * 1 / 3 = 0; each by itself would give 1.
        CHECKS.due("the cost of both", "0 10 10 1 0 9", () -> Checks.rows(x, 0));
        CHECKS.due("and the rest of it", 2, () -> x.poolCost(0, 10));
        x.sell(0, 10, 2, 9);
        CHECKS.due("all of both", "0 10 10 3 2 18", () -> Checks.rows(x, 0));
        CHECKS.due("the pool stays empty", 0, () -> x.poolUnits(0, 10));
    }

    /** "all sales likewise, with their proceeds". */
    private static void salesOfADayAreOne() {
        GainsReckoner x = new GainsReckoner();
        x.buy(0, 0, 10, 1000);
        x.sell(0, 10, 1, 1);
        x.sell(0, 10, 2, 1);
        x.buy(0, 12, 1, 50);
        // Proceeds of 2 for three units: 0, then 2.
        CHECKS.due("two matches", "1 10 12 1 50 0; 2 10 -1 2 200 2", () -> Checks.rows(x, 0));
        x.cancel(1);
        CHECKS.due("one sale is left", "1 10 12 1 50 0; 2 10 -1 1 100 1", () -> Checks.rows(x, 0));
    }

    /** A pool of ten shares at 10 each since day 0. */
    private static GainsReckoner withAPool() {
        GainsReckoner x = new GainsReckoner();
        x.buy(0, 0, 10, 100);
        return x;
    }

    /** "Of each day, as many units of its sale as possible are matched to its buy." */
    private static void sameDayJustEnough() {
        String[] rows = {"0 10 10 4 40 60", "0 10 10 5 50 60", "0 10 10 5 50 50; 2 10 -1 1 10 10"};
        for (int sold = 4; sold <= 6; sold++) {
            GainsReckoner x = withAPool();
            x.buy(0, 10, 5, 50);
            x.sell(0, 10, sold, 60);
            CHECKS.due(sold + " of 5", rows[sold - 4], () -> Checks.rows(x, 0));
            CHECKS.due(sold + " of 5: pool", 15 - sold, () -> x.poolUnits(0, 10));
            CHECKS.due(sold + " of 5: its cost", 150 - 10 * sold, () -> x.poolCost(0, 10));
            CHECKS.due(sold + " of 5: the day before", 10, () -> x.poolUnits(0, 9));
        }
    }

    private static void sameDayOnTheFirstAndTheLastDay() {
        GainsReckoner x = new GainsReckoner();
        x.buy(0, 1824, 1, 30);
        x.sell(0, 1824, 1, 31);
        x.buy(0, 0, 1, 20);
        x.sell(0, 0, 1, 21);
        x.buy(0, 1, 1, 10);
        CHECKS.due("matches", "0 0 0 1 20 21; 0 1824 1824 1 30 31", () -> Checks.rows(x, 0));
        CHECKS.due("day 0 of the sale", 0, () -> x.saleDay(0, 0));
        CHECKS.due("day 0 of the buy", 0, () -> x.buyDay(0, 0));
        CHECKS.due("day 1824 of the sale", 1824, () -> x.saleDay(0, 1));
        CHECKS.due("day 1824 of the buy", 1824, () -> x.buyDay(0, 1));
    }

    /** "2. Then each sale ..": no earlier sale may take what a sale of the buy's own day takes. */
    private static void allSameDaysComeBeforeLaterOnes() {
        GainsReckoner x = withAPool();
        x.buy(0, 20, 5, 50);
        x.sell(0, 10, 5, 10);
        CHECKS.due("no sale on day 20", "1 10 20 5 50 10", () -> Checks.rows(x, 0));
        x.sell(0, 20, 4, 8);
        CHECKS.due("one is left", "1 10 20 1 10 2; 2 10 -1 4 40 8; 0 20 20 4 40 8", () -> Checks.rows(x, 0));
        x.sell(0, 20, 1, 7);
        CHECKS.due("none is left", "2 10 -1 5 50 10; 0 20 20 5 50 15", () -> Checks.rows(x, 0));
    }

    /** "the day of the sale and the window, added, is the last one". */
    private static void theLastDayOfTheWindow() {
        for (int window : new int[] {0, 1, 2, 29, 30, 31, 59, 60}) {
            for (int after : new int[] {0, 1, window - 1, window, window + 1, 61}) {
                if (after < 0) {
                    continue;
                }
                GainsReckoner x = withAPool();
                x.setWindow(window);
                x.sell(0, 100, 1, 1);
                x.buy(0, 100 + after, 1, 1);
                boolean taken = after <= window;
                int kind = after == 0 ? GainsReckoner.SAME_DAY : taken ? GainsReckoner.LATER : GainsReckoner.POOL;
                String what = "window of " + window + ", a buy after " + after + " days";
                CHECKS.due(what, kind, () -> x.kindOf(0, 0));
                CHECKS.due(what + ": its day", taken ? 100 + after : GainsReckoner.NONE, () -> x.buyDay(0, 0));
                CHECKS.due(what + ": one match", 1, () -> x.matches(0));
            }
        }
    }

    private static void theWindowAtTheEndOfTheDays() {
        int[][] saleBuyWindow = {
            {1764, 1824, 60}, {1763, 1824, 60}, {1765, 1824, 60}, {1823, 1824, 1}, {1823, 1824, 0},
            {1794, 1824, 30}, {1793, 1824, 30}, {1, 61, 60}, {1, 62, 60}, {1, 2, 1}, {1, 3, 1}};
        for (int[] t : saleBuyWindow) {
            GainsReckoner x = withAPool();
            x.setWindow(t[2]);
            x.sell(0, t[0], 2, 6);
            x.buy(0, t[1], 2, 4);
            boolean taken = t[1] - t[0] <= t[2];
            CHECKS.due("sale " + t[0] + ", buy " + t[1] + ", window " + t[2],
                taken ? "1 " + t[0] + " " + t[1] + " 2 4 6" : "2 " + t[0] + " -1 2 20 6", () -> Checks.rows(x, 0));
            CHECKS.due("pool on the last day", 10, () -> x.poolUnits(0, 1824));
        }
        GainsReckoner y = withAPool();
        y.setWindow(60);
        y.sell(0, 1824, 1, 1);
        CHECKS.due("no day follows the last one", "2 1824 -1 1 10 1", () -> Checks.rows(y, 0));
    }

    /** setWindow: "0 to 60": with 0 there are the same day and the pool alone. */
    private static void theWindowOfNoDays() {
        GainsReckoner x = withAPool();
        x.buy(0, 10, 1, 2);
        x.buy(0, 11, 9, 3);
        x.sell(0, 10, 3, 6);
        CHECKS.due("with 30 days", "0 10 10 1 2 2; 1 10 11 2 0 4", () -> Checks.rows(x, 0));
        x.setWindow(0);
        CHECKS.due("with none", "0 10 10 1 2 2; 2 10 -1 2 20 4", () -> Checks.rows(x, 0));
        CHECKS.due("the buy of day 11 is left", 17, () -> x.poolUnits(0, 11));
        x.setWindow(1);
        CHECKS.due("with one", "0 10 10 1 2 2; 1 10 11 2 0 4", () -> Checks.rows(x, 0));
    }

    /** setWindow: "for how many days after a sale buys are matched to it", of trades entered before too. */
    private static void theWindowIsOfAllShares() {
        GainsReckoner x = new GainsReckoner();
        for (int share = 0; share < 3; share++) {
            x.buy(share, 0, 1, 10);
            x.sell(share, 100, 1, 7);
            x.buy(share, 130 + share, 1, 5);
        }
        for (int window : new int[] {30, 31, 32, 60, 32, 31, 30, 29, 0}) {
            x.setWindow(window);
            for (int share = 0; share < 3; share++) {
                int s = share;
                boolean taken = 30 + s <= window;
                CHECKS.due("share " + s + ", window " + window,
                    taken ? "1 100 " + (130 + s) + " 1 5 7" : "2 100 -1 1 10 7", () -> Checks.rows(x, s));
                CHECKS.due("pool of share " + s + ", window " + window, taken ? 10 : 5, () -> x.poolCost(s, 1824));
                CHECKS.due("gain of share " + s + ", window " + window, taken ? 2 : -3, () -> x.gain(s, 0));
            }
        }
    }

    /** "the buys of the later days": none of the days before. */
    private static void buysBeforeTheSaleAreNotLater() {
        GainsReckoner x = withAPool();
        x.buy(0, 99, 5, 500);
        x.sell(0, 100, 3, 1);
        // 600 * 3 / 15.
        CHECKS.due("from the pool", "2 100 -1 3 120 1", () -> Checks.rows(x, 0));
    }

    /** "each sale, by rising days, is matched, with what is left of it, to what is left of the buys". */
    private static void earlierSalesTakeFirst() {
        GainsReckoner x = withAPool();
        x.sell(0, 11, 2, 30);
        x.sell(0, 10, 2, 20);
        x.buy(0, 40, 3, 10);
        CHECKS.due("both reach day 40", "1 10 40 2 6 20; 1 11 40 1 4 15; 2 11 -1 1 10 15", () -> Checks.rows(x, 0));
        x.cancel(3);
        x.buy(0, 41, 3, 10);
        CHECKS.due("one reaches day 41", "2 10 -1 2 20 20; 1 11 41 2 6 30", () -> Checks.rows(x, 0));
        CHECKS.due("the pool then", 9, () -> x.poolUnits(0, 41));
        CHECKS.due("and its cost", 84, () -> x.poolCost(0, 41));
        x.cancel(4);
        x.buy(0, 42, 3, 10);
        CHECKS.due("none reaches day 42", "2 10 -1 2 20 20; 2 11 -1 2 20 30", () -> Checks.rows(x, 0));
    }

    /** "to what is left of the buys of the later days .., by rising days". */
    private static void earlierBuysAreTakenFirst() {
        GainsReckoner x = withAPool();
        x.sell(0, 10, 3, 9);
        x.buy(0, 13, 2, 6);
        CHECKS.due("day 13", "1 10 13 2 6 6; 2 10 -1 1 10 3", () -> Checks.rows(x, 0));
        x.buy(0, 12, 2, 8);
        CHECKS.due("day 12 before it", "1 10 12 2 8 6; 1 10 13 1 3 3", () -> Checks.rows(x, 0));
        x.buy(0, 11, 1, 5);
        CHECKS.due("day 11 before both", "1 10 11 1 5 3; 1 10 12 2 8 6", () -> Checks.rows(x, 0));
        CHECKS.due("day 13 is left", 12, () -> x.poolUnits(0, 13));
        CHECKS.due("with its cost", 106, () -> x.poolCost(0, 13));
    }

    private static void justEnoughOfALaterBuy() {
        String[] rows = {"1 10 11 4 60 40; 2 10 -1 1 10 10", "1 10 11 5 60 50", "1 10 11 5 50 50"};
        int[] costs = {90, 100, 110};
        for (int bought = 4; bought <= 6; bought++) {
            GainsReckoner x = withAPool();
            x.sell(0, 10, 5, 50);
            x.buy(0, 11, bought, 60);
            int i = bought - 4;
            CHECKS.due("5 to " + bought, rows[i], () -> Checks.rows(x, 0));
            CHECKS.due("5 to " + bought + ": pool", 9 + i, () -> x.poolUnits(0, 11));
            CHECKS.due("5 to " + bought + ": its cost", costs[i], () -> x.poolCost(0, 11));
        }
    }

    /** The window is of days, the matches are of units. */
    private static void theWindowAcrossASplit() {
        GainsReckoner x = new GainsReckoner();
        x.buy(0, 0, 10, 60);
        x.sell(0, 10, 2, 12);
        x.split(0, 11, 3);
        x.buy(0, 11, 4, 8);
        x.buy(0, 12, 3, 10);
        CHECKS.due("six units", "1 10 11 4 8 8; 1 10 12 2 6 4", () -> Checks.rows(x, 0));
        CHECKS.due("one of day 12 is left", 31, () -> x.poolUnits(0, 12));
        CHECKS.due("with its cost", 64, () -> x.poolCost(0, 12));
        x.setWindow(1);
        CHECKS.due("window of one day", "1 10 11 4 8 8; 2 10 -1 2 4 4", () -> Checks.rows(x, 0));
    }

    /** "A sale that takes u units of a pool of n units takes its cost, times u, divided by n": u = n. */
    private static void thePoolTakesAllThatIsLeft() {
        GainsReckoner x = new GainsReckoner();
        x.buy(0, 0, 3, 100);
        x.sell(0, 5, 3, 1);
        CHECKS.due("all at once", "2 5 -1 3 100 1", () -> Checks.rows(x, 0));
        CHECKS.due("no unit is left", 0, () -> x.poolUnits(0, 5));
        CHECKS.due("no cost is left", 0, () -> x.poolCost(0, 5));
        x.buy(0, 60, 2, 5);
        CHECKS.due("a new pool", 5, () -> x.poolCost(0, 60));
        x.cancel(1);
        x.sell(0, 5, 2, 2);
        x.sell(0, 6, 1, 1);
        CHECKS.due("in two parts", "2 5 -1 2 66 2; 2 6 -1 1 34 1", () -> Checks.rows(x, 0));
        CHECKS.due("no cost is left again", 0, () -> x.poolCost(0, 6));
    }

    /** "rounded down; the rest stays in the pool". */
    private static void thePoolRoundsDown() {
        GainsReckoner x = new GainsReckoner();
        x.buy(0, 0, 7, 20);
        x.sell(0, 5, 3, 1);
        CHECKS.due("20 * 3 / 7", "2 5 -1 3 8 1", () -> Checks.rows(x, 0));
        CHECKS.due("the rest", 12, () -> x.poolCost(0, 5));
        GainsReckoner y = new GainsReckoner();
        y.buy(0, 0, 3, 1);
        y.sell(0, 5, 1, 1);
        y.sell(0, 6, 1, 1);
        CHECKS.due("1 / 3, 1 / 2", "2 5 -1 1 0 1; 2 6 -1 1 0 1", () -> Checks.rows(y, 0));
        CHECKS.due("the cent stays", 1, () -> y.poolCost(0, 6));
        y.sell(0, 7, 1, 1);
        CHECKS.due("the last takes it", 1, () -> y.costOf(0, 2));
    }

    /** "what is left of the sales is matched to the pool on their days, by rising days". */
    private static void salesTakeFromThePoolByRisingDays() {
        GainsReckoner x = new GainsReckoner();
        x.buy(0, 0, 2, 10);
        x.buy(0, 50, 2, 100);
        x.sell(0, 60, 1, 3);
        CHECKS.due("110 * 1 / 4", "2 60 -1 1 27 3", () -> Checks.rows(x, 0));
        x.sell(0, 10, 1, 4);
        CHECKS.due("day 10 is before the buy", "2 10 -1 1 5 4; 2 60 -1 1 35 3", () -> Checks.rows(x, 0));
        x.cancel(3);
        x.sell(0, 49, 1, 4);
        CHECKS.due("day 49 reaches day 50", "1 49 50 1 50 4; 2 60 -1 1 20 3", () -> Checks.rows(x, 0));
        x.setWindow(0);
        CHECKS.due("without a window not", "2 49 -1 1 5 4; 2 60 -1 1 35 3", () -> Checks.rows(x, 0));
    }

    /** "the part matched to the sale of its own day, those matched to earlier sales .., the pool". */
    private static void theOrderOfACost() {
        GainsReckoner x = new GainsReckoner();
        x.buy(0, 0, 10, 0);
        x.buy(0, 12, 4, 2);
        x.sell(0, 11, 1, 0);
        x.sell(0, 10, 1, 0);
        x.sell(0, 12, 1, 0);
        // 2 for four units, one at a time: 0, 1, 0, 1.
        CHECKS.due("own day 0, day 10 1, day 11 0", "1 10 12 1 1 0; 1 11 12 1 0 0; 0 12 12 1 0 0",
            () -> Checks.rows(x, 0));
        CHECKS.due("the pool 1", 1, () -> x.poolCost(0, 12));
    }

    /** "brings the units shared out so far from j to k gets c * k / n less c * j / n". */
    private static void theCostOfLargeParts() {
        GainsReckoner x = new GainsReckoner();
        x.buy(0, 0, 20, 0);
        x.sell(0, 10, 2, 0);
        x.sell(0, 11, 3, 0);
        x.buy(0, 12, 10, 7);
        x.sell(0, 12, 1, 0);
        // 7 * 1 / 10 = 0, 7 * 3 / 10 = 2, 7 * 6 / 10 = 4, 7.
        CHECKS.due("parts", "1 10 12 2 2 0; 1 11 12 3 2 0; 0 12 12 1 0 0", () -> Checks.rows(x, 0));
        CHECKS.due("the pool's", 3, () -> x.poolCost(0, 12));
        GainsReckoner y = new GainsReckoner();
        for (int day = 1821; day < 1825; day++) {
            y.split(0, day, 5);
        }
        y.buy(0, 1, 1000, 1000000);
        y.sell(0, 1, 999, 999999);
        y.sell(0, 1820, 1, 1000000);
        CHECKS.due("625 units each", "0 1 1 624375 999000 999999; 2 1820 -1 625 1000 1000000",
            () -> Checks.rows(y, 0));
    }

    /** "the buy of its own day, later buys by rising days, the pool". */
    private static void theOrderOfTheProceeds() {
        GainsReckoner x = new GainsReckoner();
        x.buy(0, 0, 10, 0);
        x.sell(0, 10, 4, 2);
        x.buy(0, 12, 1, 9);
        x.buy(0, 11, 1, 8);
        x.buy(0, 10, 1, 7);
        // 2 for four units, one at a time: 0, 1, 0, 1.
        CHECKS.due("0, 1, 0, 1", "0 10 10 1 7 0; 1 10 11 1 8 1; 1 10 12 1 9 0; 2 10 -1 1 0 1",
            () -> Checks.rows(x, 0));
    }

    /** cost and proceeds: "0 to 1000000". */
    private static void costAndProceedsOfZero() {
        GainsReckoner x = new GainsReckoner();
        x.buy(0, 0, 3, 0);
        x.sell(0, 0, 1, 0);
        x.sell(0, 5, 1, 1000000);
        CHECKS.due("nothing is paid", "0 0 0 1 0 0; 2 5 -1 1 0 1000000", () -> Checks.rows(x, 0));
        CHECKS.due("costMatched", 0, () -> x.costMatched(0));
    }

    /** Parts are shared out: together they are the whole, whatever is rounded. */
    private static void partsAddUp() {
        GainsReckoner x = new GainsReckoner();
        int proceeds = 0;
        for (int i = 0; i < 30; i++) {
            x.buy(0, 3 * i, 7 + i % 4, 1000 + 37 * i);
            x.sell(0, 3 * i + i % 3, 5 + i % 3, 101 + 13 * i);
            proceeds += 101 + 13 * i;
        }
        x.split(0, 40, 3);
        int costs = 0;
        for (int m = 0; m < x.matches(0); m++) {
            costs += x.costOf(0, m);
            proceeds -= x.proceedsOf(0, m);
        }
        CHECKS.same("proceeds of all matches", 0, proceeds);
        CHECKS.due("costs of all matches", costs, () -> x.costMatched(0));
        int matched = costs;
        CHECKS.due("with the pool", 30 * 1000 + 37 * 435, () -> matched + x.poolCost(0, 1824));
        CHECKS.due("units in the pool are held", x.holding(0, 1824), () -> x.poolUnits(0, 1824));
    }

    /** "IndexOutOfBoundsException if there is no such share or match", of all six questions. */
    private static void none(String what, GainsReckoner x, int share, int match) {
        String which = what + ", share " + share + ", match " + match;
        CHECKS.due("kindOf: " + which, Checks.INDEX, () -> x.kindOf(share, match));
        CHECKS.due("saleDay: " + which, Checks.INDEX, () -> x.saleDay(share, match));
        CHECKS.due("buyDay: " + which, Checks.INDEX, () -> x.buyDay(share, match));
        CHECKS.due("unitsOf: " + which, Checks.INDEX, () -> x.unitsOf(share, match));
        CHECKS.due("costOf: " + which, Checks.INDEX, () -> x.costOf(share, match));
        CHECKS.due("proceedsOf: " + which, Checks.INDEX, () -> x.proceedsOf(share, match));
    }

    private static void noneAround(String what, GainsReckoner x, int share, int matches) {
        CHECKS.due(what + ": matches of share " + share, matches, () -> x.matches(share));
        for (int match : new int[] {-1, MIN, MAX, matches, matches + 1}) {
            none(what, x, share, match);
        }
    }

    private static void noMatchAtAll() {
        GainsReckoner x = new GainsReckoner();
        noneAround("new", x, 0, 0);
        x.buy(0, 0, 5, 5);
        x.split(0, 1, 2);
        noneAround("buys alone", x, 0, 0);
        x.sell(0, 0, 1, 1);
        noneAround("a sale", x, 0, 1);
        x.cancel(1);
        noneAround("a cancelled sale", x, 0, 0);
        for (int share : new int[] {-1, 3, MIN, MAX}) {
            CHECKS.due("matches of share " + share, Checks.INDEX, () -> x.matches(share));
            none("no such share", x, share, 0);
            none("no such share", x, share, -1);
        }
    }

    private static void theLastMatch() {
        GainsReckoner x = withAPool();
        x.buy(0, 10, 1, 11);
        x.sell(0, 10, 3, 9);
        x.buy(0, 11, 1, 12);
        noneAround("three matches", x, 0, 3);
        CHECKS.due("the last: kind", GainsReckoner.POOL, () -> x.kindOf(0, 2));
        CHECKS.due("the last: sale", 10, () -> x.saleDay(0, 2));
        CHECKS.due("the last: buy", GainsReckoner.NONE, () -> x.buyDay(0, 2));
        CHECKS.due("the last: units", 1, () -> x.unitsOf(0, 2));
        CHECKS.due("the last: cost", 10, () -> x.costOf(0, 2));
        CHECKS.due("the last: proceeds", 3, () -> x.proceedsOf(0, 2));
        CHECKS.due("the first", "0 10 10 1 11 3; 1 10 11 1 12 3; 2 10 -1 1 10 3", () -> Checks.rows(x, 0));
        x.cancel(1);
        noneAround("two are left", x, 0, 2);
        x.setWindow(0);
        noneAround("one is left", x, 0, 1);
    }

    /** Sixty trades lead to at most 59 matches: all from the pool, all same days, and in a chain. */
    private static void theMostMatches() {
        GainsReckoner x = new GainsReckoner();
        x.buy(2, 0, 1000, 1000);
        for (int i = 1; i < 60; i++) {
            x.sell(2, 1824 - i, 1 + i / 2, i);
        }
        noneAround("the pool", x, 2, 59);
        CHECKS.due("the first", 30, () -> x.unitsOf(2, 0));
        CHECKS.due("the last", 1823, () -> x.saleDay(2, 58));
        GainsReckoner y = new GainsReckoner();
        for (int i = 0; i < 30; i++) {
            y.buy(1, 60 * i, 1, 1);
            y.sell(1, 60 * i, 1, 1);
        }
        noneAround("same days", y, 1, 30);
        CHECKS.due("the last", 1740, () -> y.buyDay(1, 29));
        // Each sale ends in the middle of a buy, each buy in the middle of a sale.
        GainsReckoner z = new GainsReckoner();
        z.setWindow(60);
        z.buy(0, 0, 1000, 0);
        for (int day = 1; day <= 30; day++) {
            z.sell(0, day, 2, 2);
        }
        for (int day = 31; day <= 59; day++) {
            z.buy(0, day, day == 31 ? 1 : 2, 0);
        }
        noneAround("a chain", z, 0, 59);
        CHECKS.due("before the last", GainsReckoner.POOL, () -> z.kindOf(0, 57));
        CHECKS.due("the last", 30, () -> z.saleDay(0, 58));
        CHECKS.due("the last later one", 59, () -> z.buyDay(0, 56));
    }

    /** Matches are those "of a share": each has its own numbers. */
    private static void matchesOfEachShare() {
        GainsReckoner x = new GainsReckoner();
        for (int share = 2; share >= 0; share--) {
            x.buy(share, 10 + share, 9, 9);
            for (int i = 0; i <= share; i++) {
                x.sell(share, 20 + i, 1, share);
            }
        }
        for (int share = 0; share < 3; share++) {
            int s = share;
            noneAround("each its own", x, s, s + 1);
            CHECKS.due("the last of share " + s, 20 + s, () -> x.saleDay(s, s));
            CHECKS.due("the first of share " + s, s, () -> x.proceedsOf(s, 0));
        }
    }

    /** "ordered by the days of their sales, those of one sale in the order in which its proceeds ..". */
    private static void theOrderOfTheMatches() {
        GainsReckoner x = new GainsReckoner();
        x.buy(0, 30, 2, 2);
        x.buy(0, 20, 1, 1);
        x.buy(0, 10, 1, 1);
        x.buy(0, 0, 20, 0);
        x.sell(0, 20, 3, 3);
        x.sell(0, 10, 3, 3);
        CHECKS.due("by sales, then same day, later, pool",
            "0 10 10 1 1 1; 1 10 30 2 2 2; 0 20 20 1 1 1; 2 20 -1 2 0 2", () -> Checks.rows(x, 0));
        x.setWindow(19);
        CHECKS.due("day 30 is left to day 20",
            "0 10 10 1 1 1; 2 10 -1 2 0 2; 0 20 20 1 1 1; 1 20 30 2 2 2", () -> Checks.rows(x, 0));
    }
}
