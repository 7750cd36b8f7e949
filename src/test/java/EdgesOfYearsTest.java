/**
 * The edges that the document names about years: "Years" in "Terms", and promises 21 to 24. Each test
 * stands under the words that it holds.
 */
public final class EdgesOfYearsTest {
    private static final Checks CHECKS = new Checks();
    private static final int MIN = Integer.MIN_VALUE;
    private static final int MAX = Integer.MAX_VALUE;

    public static void main(String[] args) {
        theFirstAndTheLastDayOfEachYear();
        theYearIsThatOfTheSale();
        gainsOfZeroAndBelow();
        netsOfAllShares();
        noLossesIntoTheFirstYear();
        aNetJustBelowZero();
        aNetOfExactlyZero();
        aLossIsAddedWhole();
        netsAroundTheAllowance();
        lossesAroundWhatIsAbove();
        lossesThroughAllYears();
        everyYearTakesItsShare();
        lossesOfTheLastYear();
        allowancesSetLate();
        theLargestGainAndLoss();
        wrongYears();
        CHECKS.end("EdgesOfYearsTest");
    }

    /** A buy and a sale of one share on the day, with this gain. */
    private static void gainOn(GainsReckoner x, int share, int day, int gain) {
        x.buy(share, day, 1, Math.max(0, -gain));
        x.sell(share, day, 1, Math.max(0, gain));
    }

    /** An object with these nets of the years 0, 1, .. */
    private static GainsReckoner withNets(int... nets) {
        GainsReckoner x = new GainsReckoner();
        for (int year = 0; year < nets.length; year++) {
            gainOn(x, year % 3, 365 * year + 100, nets[year]);
        }
        return x;
    }

    private static void years(String what, GainsReckoner x, int[] carried, int[] taxable) {
        for (int i = 0; i < carried.length; i++) {
            int year = i;
            CHECKS.due(what + ": carried out of year " + i, carried[i], () -> x.carried(year));
            CHECKS.due(what + ": taxable of year " + i, taxable[i], () -> x.taxable(year));
        }
    }

    /** "the year of a day is its number divided by 365, rounded down". */
    private static void theFirstAndTheLastDayOfEachYear() {
        GainsReckoner x = new GainsReckoner();
        int[] days = {0, 364, 365, 729, 730, 1094, 1095, 1459, 1460, 1824};
        for (int i = 0; i < days.length; i++) {
            gainOn(x, 0, days[i], 1 << i);
        }
        int[] gains = {3, 12, 48, 192, 768};
        for (int i = 0; i < 5; i++) {
            int year = i;
            CHECKS.due("gain of year " + i, gains[i], () -> x.gain(0, year));
            CHECKS.due("net of year " + i, gains[i], () -> x.net(year));
            CHECKS.due("taxable of year " + i, gains[i], () -> x.taxable(year));
        }
    }

    /** "it belongs to the year of the sale", also if the buy is of the next one. */
    private static void theYearIsThatOfTheSale() {
        for (int i = 1; i < 5; i++) {
            int year = i;
            GainsReckoner x = new GainsReckoner();
            x.buy(0, 0, 2, 0);
            x.sell(0, 365 * i - 1, 1, 10);
            x.buy(0, 365 * i, 1, 3);
            CHECKS.due("the buy is of year " + i, 365 * i, () -> x.buyDay(0, 0));
            CHECKS.due("gain of the year before", 7, () -> x.gain(0, year - 1));
            CHECKS.due("gain of year " + i, 0, () -> x.gain(0, year));
            CHECKS.due("net of the year before", 7, () -> x.net(year - 1));
            CHECKS.due("net of year " + i, 0, () -> x.net(year));
        }
    }

    /** "Returns the sum; below 0 for a loss." */
    private static void gainsOfZeroAndBelow() {
        GainsReckoner x = new GainsReckoner();
        CHECKS.due("no match", 0, () -> x.gain(2, 0));
        gainOn(x, 2, 10, -1);
        CHECKS.due("a loss of 1", -1, () -> x.gain(2, 0));
        gainOn(x, 2, 20, 1);
        CHECKS.due("both", 0, () -> x.gain(2, 0));
        gainOn(x, 2, 30, 1);
        CHECKS.due("all three", 1, () -> x.gain(2, 0));
        x.cancel(5);
        x.cancel(3);
        CHECKS.due("the loss again", -1, () -> x.gain(2, 0));
        x.cancel(1);
        CHECKS.due("nothing", 0, () -> x.gain(2, 0));
    }

    /** "the sum of the gains of all matches of all shares in it, which can be below 0". */
    private static void netsOfAllShares() {
        GainsReckoner x = new GainsReckoner();
        gainOn(x, 0, 365, -100);
        CHECKS.due("share 0", -100, () -> x.net(1));
        gainOn(x, 1, 729, 20);
        CHECKS.due("and 1", -80, () -> x.net(1));
        gainOn(x, 2, 500, 80);
        CHECKS.due("and 2", 0, () -> x.net(1));
        CHECKS.due("gain of share 0", -100, () -> x.gain(0, 1));
        CHECKS.due("gain of share 1", 20, () -> x.gain(1, 1));
        CHECKS.due("gain of share 2", 80, () -> x.gain(2, 1));
        CHECKS.due("the year before", 0, () -> x.net(0));
        CHECKS.due("the year after", 0, () -> x.net(2));
        // Two matches of one sale: the pool's at a cost of 50, a later one at 3.
        x.buy(1, 1000, 1, 50);
        x.sell(1, 1050, 1, 60);
        x.buy(1, 1000, 1, 50);
        x.sell(1, 1050, 1, 60);
        x.buy(1, 1060, 1, 3);
        CHECKS.due("both matches", 67, () -> x.net(2));
    }

    /** "Losses are carried from year to year, none into the year 0." */
    private static void noLossesIntoTheFirstYear() {
        GainsReckoner x = withNets(70, -30, 40, 5, -8);
        CHECKS.due("nothing is used in year 0", 70, () -> x.taxable(0));
        years("later losses do not go back", x, new int[] {0, 30, 0, 0, 8}, new int[] {70, 0, 10, 5, 0});
    }

    /** "If the net is below 0, it is added to the losses (as a number above 0), and nothing is taxable." */
    private static void aNetJustBelowZero() {
        years("-1", withNets(-1), new int[] {1, 1, 1, 1, 1}, new int[] {0, 0, 0, 0, 0});
        years("-1 thrice", withNets(-1, -1, -1), new int[] {1, 2, 3, 3, 3}, new int[] {0, 0, 0, 0, 0});
    }

    /** 0 is not below 0: nothing is added to the losses, nothing of them is used. */
    private static void aNetOfExactlyZero() {
        GainsReckoner x = withNets(-9, 0, 0);
        gainOn(x, 0, 400, 50);
        gainOn(x, 1, 401, -50);
        CHECKS.due("net", 0, () -> x.net(1));
        years("0", x, new int[] {9, 9, 9, 9, 9}, new int[] {0, 0, 0, 0, 0});
        x.setAllowance(1, 5);
        years("0 with an allowance", x, new int[] {9, 9, 9, 9, 9}, new int[] {0, 0, 0, 0, 0});
        years("1", withNets(1), new int[] {0, 0}, new int[] {1, 0});
    }

    /** The allowance is for a net of 0 or above alone: it makes no loss larger or smaller. */
    private static void aLossIsAddedWhole() {
        GainsReckoner x = withNets(-10, -20, 100);
        x.setAllowance(0, 5);
        x.setAllowance(1, 1000000);
        years("losses", x, new int[] {10, 30, 0}, new int[] {0, 0, 70});
    }

    /** "Otherwise the net less the allowance of the year, but not below 0, is what is above". */
    private static void netsAroundTheAllowance() {
        int[] allowances = {0, 1, 99, 100, 101, 1000000};
        int[] taxable = {100, 99, 1, 0, 0, 0};
        for (int i = 0; i < allowances.length; i++) {
            for (int y = 0; y < 5; y++) {
                int year = y;
                GainsReckoner x = new GainsReckoner();
                gainOn(x, 1, 365 * y, 100);
                x.setAllowance(y, allowances[i]);
                String what = "100, allowance of " + allowances[i] + " in year " + y;
                CHECKS.due(what, taxable[i], () -> x.taxable(year));
                CHECKS.due(what + ": an allowance is no loss", 0, () -> x.carried(year));
                CHECKS.due(what + ": net", 100, () -> x.net(year));
            }
        }
    }

    /** "of the losses .. as much as possible, up to what is above, is used up; what is left .. is taxable". */
    private static void lossesAroundWhatIsAbove() {
        // Losses, net, allowance; carried, taxable.
        int[][] table = {
            {0, 100, 0, 0, 100}, {1, 100, 0, 0, 99}, {99, 100, 0, 0, 1}, {100, 100, 0, 0, 0},
            {101, 100, 0, 1, 0}, {500, 100, 0, 400, 0},
            {59, 100, 40, 0, 1}, {60, 100, 40, 0, 0}, {61, 100, 40, 1, 0},
            {7, 100, 99, 6, 0}, {1, 100, 99, 0, 0}, {0, 100, 99, 0, 1},
            {7, 100, 100, 7, 0}, {7, 100, 101, 7, 0}, {7, 0, 0, 7, 0}, {7, 0, 3, 7, 0},
            {7, 1, 0, 6, 0}, {7, -1, 0, 8, 0}, {7, -1, 3, 8, 0}, {0, 0, 0, 0, 0}};
        for (int[] t : table) {
            GainsReckoner x = withNets(-t[0], t[1]);
            x.setAllowance(1, t[2]);
            String what = "losses of " + t[0] + ", net of " + t[1] + ", allowance of " + t[2];
            CHECKS.due(what + ": carried", t[3], () -> x.carried(1));
            CHECKS.due(what + ": taxable", t[4], () -> x.taxable(1));
        }
    }

    private static void lossesThroughAllYears() {
        years("untouched", withNets(-5, 0, 0, 0, 0), new int[] {5, 5, 5, 5, 5}, new int[] {0, 0, 0, 0, 0});
        years("used at the end", withNets(-5, 0, 0, 0, 6), new int[] {5, 5, 5, 5, 0}, new int[] {0, 0, 0, 0, 1});
        years("added up", withNets(-1, -2, -4, -8, -16), new int[] {1, 3, 7, 15, 31}, new int[] {0, 0, 0, 0, 0});
        years("in turn", withNets(-10, 4, -3, 20, -1), new int[] {10, 6, 9, 0, 1}, new int[] {0, 0, 0, 11, 0});
    }

    private static void everyYearTakesItsShare() {
        GainsReckoner x = withNets(-100, 30, 30, 30, 30);
        years("without allowances", x, new int[] {100, 70, 40, 10, 0}, new int[] {0, 0, 0, 0, 20});
        for (int year = 0; year < 5; year++) {
            x.setAllowance(year, 10 * year);
        }
        // Above are 20, 10, 0 and 0.
        years("with allowances", x, new int[] {100, 80, 70, 70, 70}, new int[] {0, 0, 0, 0, 0});
    }

    /** carried of the year 4: there are losses, though no next year is asked for. */
    private static void lossesOfTheLastYear() {
        years("the last", withNets(0, 0, 0, 0, -41), new int[] {0, 0, 0, 0, 41}, new int[] {0, 0, 0, 0, 0});
    }

    /** Allowances may be set late: all later years follow. */
    private static void allowancesSetLate() {
        GainsReckoner x = withNets(-50, 40, 40);
        years("none", x, new int[] {50, 10, 0}, new int[] {0, 0, 30});
        x.setAllowance(1, 15);
        years("15 in year 1", x, new int[] {50, 25, 0}, new int[] {0, 0, 15});
        x.setAllowance(2, 15);
        years("15 in year 2", x, new int[] {50, 25, 0}, new int[] {0, 0, 0});
        x.setAllowance(2, 16);
        years("16 in year 2", x, new int[] {50, 25, 1}, new int[] {0, 0, 0});
        x.setAllowance(1, 0);
        x.setAllowance(2, 0);
        years("none again", x, new int[] {50, 10, 0}, new int[] {0, 0, 30});
        x.cancel(1);
        years("without the loss", x, new int[] {0, 0, 0}, new int[] {0, 40, 40});
    }

    private static void theLargestGainAndLoss() {
        GainsReckoner x = new GainsReckoner();
        x.buy(0, 0, 59, 0);
        for (int i = 0; i < 59; i++) {
            x.sell(0, 364, 1, 1000000);
        }
        x.setAllowance(0, 1000000);
        CHECKS.due("gain", 59000000, () -> x.gain(0, 0));
        years("gain", x, new int[] {0, 0}, new int[] {58000000, 0});
        GainsReckoner y = new GainsReckoner();
        for (int i = 0; i < 58; i++) {
            y.buy(0, 0, 1, 1000000);
        }
        y.sell(0, 364, 57, 0);
        y.sell(0, 365, 1, 1000000);
        CHECKS.due("loss", -57000000, () -> y.gain(0, 0));
        CHECKS.due("net", -57000000, () -> y.net(0));
        years("loss", y, new int[] {57000000, 57000000, 57000000}, new int[] {0, 0, 0});
    }

    /** "if there is no such share or year". */
    private static void wrongYears() {
        GainsReckoner x = withNets(1, -2, 3, -4, 5);
        for (int year : new int[] {-1, 5, MIN, MAX}) {
            CHECKS.due("net of year " + year, Checks.INDEX, () -> x.net(year));
            CHECKS.due("carried out of year " + year, Checks.INDEX, () -> x.carried(year));
            CHECKS.due("taxable of year " + year, Checks.INDEX, () -> x.taxable(year));
            for (int share : new int[] {0, 2, -1, 3}) {
                CHECKS.due("gain " + share + " " + year, Checks.INDEX, () -> x.gain(share, year));
            }
        }
        for (int share : new int[] {-1, 3, MIN, MAX}) {
            CHECKS.due("gain " + share + " 0", Checks.INDEX, () -> x.gain(share, 0));
            CHECKS.due("gain " + share + " 4", Checks.INDEX, () -> x.gain(share, 4));
        }
        years("the years that are", x, new int[] {0, 2, 0, 4, 0}, new int[] {1, 0, 1, 0, 1});
    }
}
