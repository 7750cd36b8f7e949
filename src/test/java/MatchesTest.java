/** Promises 14 to 20: matches, kindOf, saleDay, buyDay, unitsOf, costOf, proceedsOf. */
public final class MatchesTest {
    private static final Checks CHECKS = new Checks();

    public static void main(String[] args) {
        allThreeKinds();
        tradesOfADayAreOne();
        sameDaysComeFirst();
        earlierSalesChooseFirst();
        earlierBuysAreTakenFirst();
        lateEntriesChangeAll();
        splitsInTheWindow();
        partsAreRoundedByTheirSums();
        manyMatches();
        wrongCalls();
        CHECKS.end("MatchesTest");
    }

    private static void allThreeKinds() {
        GainsReckoner x = new GainsReckoner();
        x.buy(1, 0, 10, 1000);
        x.sell(1, 100, 10, 999);
        x.buy(1, 130, 3, 90);
        x.buy(1, 100, 2, 30);
        // Proceeds: 999 * 2 / 10 = 199, 999 * 5 / 10 = 499, 999.
        CHECKS.due("matches", 3, () -> x.matches(1));
        int[] kinds = {GainsReckoner.SAME_DAY, GainsReckoner.LATER, GainsReckoner.POOL};
        int[] buyDays = {100, 130, GainsReckoner.NONE};
        int[] units = {2, 3, 5};
        int[] costs = {30, 90, 500};
        int[] proceeds = {199, 300, 500};
        for (int i = 0; i < 3; i++) {
            int m = i;
            CHECKS.due("kindOf " + m, kinds[m], () -> x.kindOf(1, m));
            CHECKS.due("saleDay " + m, 100, () -> x.saleDay(1, m));
            CHECKS.due("buyDay " + m, buyDays[m], () -> x.buyDay(1, m));
            CHECKS.due("unitsOf " + m, units[m], () -> x.unitsOf(1, m));
            CHECKS.due("costOf " + m, costs[m], () -> x.costOf(1, m));
            CHECKS.due("proceedsOf " + m, proceeds[m], () -> x.proceedsOf(1, m));
        }
        CHECKS.due("another share", 0, () -> x.matches(0));
        CHECKS.due("another share's match", Checks.INDEX, () -> x.kindOf(0, 0));
    }

    private static void tradesOfADayAreOne() {
        GainsReckoner x = new GainsReckoner();
        x.buy(0, 10, 1, 10);
        x.buy(0, 10, 2, 90);
        x.sell(0, 10, 1, 50);
        x.sell(0, 10, 1, 21);
        CHECKS.due("one match", "0 10 10 2 66 71", () -> Checks.rows(x, 0));
        CHECKS.due("the rest", 34, () -> x.poolCost(0, 10));
        // An earlier sale of two trades, matched to two buys of one day.
        x.buy(0, 0, 9, 9);
        x.sell(0, 5, 2, 7);
        x.sell(0, 5, 2, 8);
        CHECKS.due("the day's rest, then the pool", "1 5 10 1 34 3; 2 5 -1 3 3 12; 0 10 10 2 66 71",
            () -> Checks.rows(x, 0));
    }

    private static void sameDaysComeFirst() {
        GainsReckoner x = new GainsReckoner();
        x.buy(0, 0, 10, 100);
        x.sell(0, 10, 5, 50);
        x.sell(0, 20, 5, 60);
        x.buy(0, 20, 6, 100);
        // The sale of day 10 gets but the one unit that day 20 leaves: 100 * 6 / 6 - 100 * 5 / 6.
        CHECKS.due("matches", "1 10 20 1 17 10; 2 10 -1 4 40 40; 0 20 20 5 83 60", () -> Checks.rows(x, 0));
        x.sell(0, 20, 1, 0);
        CHECKS.due("nothing is left for day 10", "2 10 -1 5 50 50; 0 20 20 6 100 60", () -> Checks.rows(x, 0));
    }

    private static void earlierSalesChooseFirst() {
        GainsReckoner x = new GainsReckoner();
        x.buy(0, 0, 20, 2000);
        x.sell(0, 12, 4, 40);
        x.sell(0, 10, 4, 44);
        x.buy(0, 15, 7, 50);
        // Cost: 50 * 4 / 7 = 28 to day 10, then 22 to day 12.
        CHECKS.due("matches", "1 10 15 4 28 44; 1 12 15 3 22 30; 2 12 -1 1 100 10", () -> Checks.rows(x, 0));
        CHECKS.due("day 15 leaves nothing", 19, () -> x.poolUnits(0, 15));
        x.setWindow(4);
        CHECKS.due("window of 4", "2 10 -1 4 400 44; 1 12 15 4 28 40", () -> Checks.rows(x, 0));
        CHECKS.due("day 15 leaves three", 19, () -> x.poolUnits(0, 15));
        CHECKS.due("of their cost", 1622, () -> x.poolCost(0, 15));
    }

    private static void earlierBuysAreTakenFirst() {
        GainsReckoner x = new GainsReckoner();
        x.buy(0, 0, 20, 2000);
        x.buy(0, 30, 5, 300);
        x.buy(0, 20, 5, 200);
        x.buy(0, 40, 5, 400);
        x.sell(0, 10, 12, 1000);
        // Proceeds: 416, 833, 1000.
        CHECKS.due("by rising days", "1 10 20 5 200 416; 1 10 30 5 300 417; 1 10 40 2 160 167", () -> Checks.rows(x, 0));
        x.setWindow(10);
        CHECKS.due("window of 10", "1 10 20 5 200 416; 2 10 -1 7 700 584", () -> Checks.rows(x, 0));
        x.setWindow(9);
        CHECKS.due("window of 9", "2 10 -1 12 1200 1000", () -> Checks.rows(x, 0));
    }

    private static void lateEntriesChangeAll() {
        GainsReckoner x = new GainsReckoner();
        x.buy(0, 10, 10, 1000);
        x.sell(0, 500, 5, 900);
        CHECKS.due("first", "2 500 -1 5 500 900", () -> Checks.rows(x, 0));
        x.buy(0, 20, 10, 3000);
        CHECKS.due("a late buy raises the pool", "2 500 -1 5 1000 900", () -> Checks.rows(x, 0));
        x.sell(0, 15, 10, 10);
        CHECKS.due("a late sale takes it", "1 15 20 10 3000 10; 2 500 -1 5 500 900", () -> Checks.rows(x, 0));
        x.cancel(3);
        CHECKS.due("cancelled", "2 500 -1 5 1000 900", () -> Checks.rows(x, 0));
        x.buy(0, 530, 1, 7);
        CHECKS.due("a buy in the window", "1 500 530 1 7 180; 2 500 -1 4 800 720", () -> Checks.rows(x, 0));
        x.buy(0, 531, 9, 9);
        CHECKS.due("a buy after it", "1 500 530 1 7 180; 2 500 -1 4 800 720", () -> Checks.rows(x, 0));
    }

    private static void splitsInTheWindow() {
        GainsReckoner x = new GainsReckoner();
        x.buy(0, 0, 10, 900);
        x.sell(0, 10, 2, 100);
        x.buy(0, 20, 4, 120);
        x.split(0, 15, 3);
        // The sale counts 6 units, the later buy 4, the first one 30.
        CHECKS.due("matches", "1 10 20 4 120 66; 2 10 -1 2 60 34", () -> Checks.rows(x, 0));
        x.split(0, 20, 2);
        CHECKS.due("a split on the buy's day", "1 10 20 4 120 33; 2 10 -1 8 120 67", () -> Checks.rows(x, 0));
        x.split(0, 21, 2);
        CHECKS.due("a split after it", "1 10 20 8 120 33; 2 10 -1 16 120 67", () -> Checks.rows(x, 0));
    }

    private static void partsAreRoundedByTheirSums() {
        GainsReckoner x = new GainsReckoner();
        x.buy(0, 0, 100, 0);
        for (int day = 10; day < 17; day++) {
            x.sell(0, day, 1, 1);
        }
        x.buy(0, 20, 9, 20);
        x.sell(0, 20, 1, 3);
        // Sums of the cost: 2 to its own day, then 4 6 8 11 13 15 17, then 20 with the pool.
        CHECKS.due("matches", "1 10 20 1 2 1; 1 11 20 1 2 1; 1 12 20 1 2 1; 1 13 20 1 3 1; 1 14 20 1 2 1; "
            + "1 15 20 1 2 1; 1 16 20 1 2 1; 0 20 20 1 2 3", () -> Checks.rows(x, 0));
        CHECKS.due("the rest goes into the pool", 3, () -> x.poolCost(0, 20));
        CHECKS.due("units in the pool", 101, () -> x.poolUnits(0, 20));
    }

    private static void manyMatches() {
        GainsReckoner x = new GainsReckoner();
        // Buys of 3 and sales of 2 units in turn: all sales reach into the buys that follow.
        x.buy(0, 0, 1000, 1000);
        x.setWindow(60);
        for (int i = 1; i < 30; i++) {
            x.sell(0, 2 * i, 2, 2 * i);
            x.buy(0, 2 * i + 1, i % 2 == 0 ? 1 : 3, 10);
        }
        x.sell(0, 1824, 941, 5);
        CHECKS.due("sixty trades", 60, () -> x.trades());
        CHECKS.due("all are told", 44, () -> x.matches(0));
        int[] units = new int[1];
        for (int m = 0; m < x.matches(0); m++) {
            units[0] += x.unitsOf(0, m);
        }
        CHECKS.same("units of all", 58 + 941, units[0]);
        CHECKS.due("the last", GainsReckoner.POOL, () -> x.kindOf(0, 43));
        CHECKS.due("after the last", Checks.INDEX, () -> x.kindOf(0, 44));
    }

    private static void wrongCalls() {
        GainsReckoner x = new GainsReckoner();
        x.buy(0, 0, 10, 10);
        x.sell(0, 0, 1, 1);
        x.sell(0, 100, 1, 1);
        for (int share : new int[] {-1, 3, Integer.MIN_VALUE, Integer.MAX_VALUE}) {
            CHECKS.due("matches of share " + share, Checks.INDEX, () -> x.matches(share));
            noMatch(x, share, 0);
        }
        for (int match : new int[] {-1, 2, 60, Integer.MIN_VALUE, Integer.MAX_VALUE}) {
            noMatch(x, 0, match);
        }
        noMatch(x, 1, 0);
        x.cancel(2);
        CHECKS.due("one is left", 1, () -> x.matches(0));
        noMatch(x, 0, 1);
    }

    private static void noMatch(GainsReckoner x, int share, int match) {
        String which = " of share " + share + ", match " + match;
        CHECKS.due("kindOf" + which, Checks.INDEX, () -> x.kindOf(share, match));
        CHECKS.due("saleDay" + which, Checks.INDEX, () -> x.saleDay(share, match));
        CHECKS.due("buyDay" + which, Checks.INDEX, () -> x.buyDay(share, match));
        CHECKS.due("unitsOf" + which, Checks.INDEX, () -> x.unitsOf(share, match));
        CHECKS.due("costOf" + which, Checks.INDEX, () -> x.costOf(share, match));
        CHECKS.due("proceedsOf" + which, Checks.INDEX, () -> x.proceedsOf(share, match));
    }
}
