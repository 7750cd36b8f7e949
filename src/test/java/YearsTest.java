/** Promises 21 to 24: gain, net, carried, taxable. */
public final class YearsTest {
    private static final Checks CHECKS = new Checks();
    private static final int[] WRONG_YEARS = {-1, 5, Integer.MIN_VALUE, Integer.MAX_VALUE};

    public static void main(String[] args) {
        theYearIsThatOfTheSale();
        netsAreOfAllShares();
        lossesAreCarried();
        allowancesComeBeforeLosses();
        aNetOfZero();
        theLargestSums();
        wrongCalls();
        CHECKS.end("YearsTest");
    }

    /** A buy and a sale of one unit on the same day, with this gain. */
    private static void gainOn(GainsReckoner x, int share, int day, int gain) {
        x.buy(share, day, 1, gain < 0 ? -gain : 0);
        x.sell(share, day, 1, gain < 0 ? 0 : gain);
    }

    private static void theYearIsThatOfTheSale() {
        GainsReckoner x = new GainsReckoner();
        x.buy(0, 0, 100, 1000);
        x.sell(0, 364, 10, 300);
        x.sell(0, 365, 10, 77);
        x.sell(0, 1824, 1, 8);
        CHECKS.due("the last day of year 0", 200, () -> x.gain(0, 0));
        CHECKS.due("the first day of year 1", -23, () -> x.gain(0, 1));
        CHECKS.due("year 2", 0, () -> x.gain(0, 2));
        CHECKS.due("year 3", 0, () -> x.gain(0, 3));
        CHECKS.due("the last day of year 4", -2, () -> x.gain(0, 4));
        x.buy(0, 366, 20, 2000);
        // Both sales are matched to the buy of day 366; each gain stays in its sale's year.
        CHECKS.due("matched to year 1", 300 - 1000, () -> x.gain(0, 0));
        CHECKS.due("matched in year 1", 77 - 1000, () -> x.gain(0, 1));
        CHECKS.due("another share", 0, () -> x.gain(1, 0));
    }

    private static void netsAreOfAllShares() {
        GainsReckoner x = new GainsReckoner();
        gainOn(x, 0, 400, 100);
        gainOn(x, 1, 729, -30);
        gainOn(x, 2, 365, 7);
        gainOn(x, 2, 500, 1000);
        gainOn(x, 2, 730, -5);
        CHECKS.due("net of year 1", 1077, () -> x.net(1));
        CHECKS.due("net of year 2", -5, () -> x.net(2));
        CHECKS.due("net of year 0", 0, () -> x.net(0));
        CHECKS.due("share 0", 100, () -> x.gain(0, 1));
        CHECKS.due("share 1", -30, () -> x.gain(1, 1));
        CHECKS.due("share 2", 1007, () -> x.gain(2, 1));
        CHECKS.due("no allowance", 1077, () -> x.taxable(1));
        x.setAllowance(1, 77);
        CHECKS.due("the allowance leaves the net", 1077, () -> x.net(1));
        CHECKS.due("taxable of year 1", 1000, () -> x.taxable(1));
        x.cancel(5);
        CHECKS.due("without a sale", 1070, () -> x.net(1));
        x.cancel(7);
        CHECKS.due("without its last sale of the year", 0, () -> x.gain(2, 1));
        CHECKS.due("the next year's stays", -5, () -> x.gain(2, 2));
    }

    private static void lossesAreCarried() {
        GainsReckoner x = new GainsReckoner();
        gainOn(x, 0, 0, -100);
        gainOn(x, 1, 365, -50);
        gainOn(x, 2, 730, 30);
        gainOn(x, 0, 1095, 200);
        gainOn(x, 0, 1460, 40);
        x.setAllowance(0, 1000);
        x.setAllowance(1, 1000);
        int[] nets = {-100, -50, 30, 200, 40};
        int[] carried = {100, 150, 120, 0, 0};
        int[] taxable = {0, 0, 0, 80, 40};
        for (int i = 0; i < 5; i++) {
            int year = i;
            CHECKS.due("net of year " + i, nets[i], () -> x.net(year));
            CHECKS.due("carried out of year " + i, carried[i], () -> x.carried(year));
            CHECKS.due("taxable of year " + i, taxable[i], () -> x.taxable(year));
        }
        // Losses of the last year lead nowhere.
        gainOn(x, 1, 1824, -41);
        CHECKS.due("carried out of the last year", 1, () -> x.carried(4));
        CHECKS.due("taxable of the last year", 0, () -> x.taxable(4));
    }

    private static void allowancesComeBeforeLosses() {
        GainsReckoner x = new GainsReckoner();
        gainOn(x, 0, 10, -100);
        gainOn(x, 0, 370, 250);
        CHECKS.due("no allowance", 150, () -> x.taxable(1));
        CHECKS.due("all losses are used", 0, () -> x.carried(1));
        x.setAllowance(1, 149);
        CHECKS.due("allowance of 149: taxable", 1, () -> x.taxable(1));
        CHECKS.due("allowance of 149: carried", 0, () -> x.carried(1));
        x.setAllowance(1, 150);
        CHECKS.due("allowance of 150: taxable", 0, () -> x.taxable(1));
        CHECKS.due("allowance of 150: carried", 0, () -> x.carried(1));
        x.setAllowance(1, 151);
        CHECKS.due("allowance of 151: taxable", 0, () -> x.taxable(1));
        CHECKS.due("allowance of 151: carried", 1, () -> x.carried(1));
        x.setAllowance(1, 250);
        CHECKS.due("the allowance takes all", 100, () -> x.carried(1));
        x.setAllowance(1, 1000000);
        CHECKS.due("more allowance makes no loss", 100, () -> x.carried(1));
        CHECKS.due("and nothing taxable", 0, () -> x.taxable(1));
        gainOn(x, 0, 800, 60);
        CHECKS.due("what was not used goes on", 40, () -> x.carried(2));
        CHECKS.due("and on", 40, () -> x.carried(4));
        CHECKS.due("the allowance is of its own year", 0, () -> x.taxable(2));
    }

    private static void aNetOfZero() {
        GainsReckoner x = new GainsReckoner();
        gainOn(x, 0, 10, -100);
        gainOn(x, 0, 370, -70);
        gainOn(x, 1, 380, 70);
        CHECKS.due("net", 0, () -> x.net(1));
        CHECKS.due("taxable", 0, () -> x.taxable(1));
        CHECKS.due("carried", 100, () -> x.carried(1));
    }

    private static void theLargestSums() {
        GainsReckoner x = new GainsReckoner();
        x.buy(0, 0, 1000, 0);
        for (int i = 0; i < 59; i++) {
            x.sell(0, 1460, 1, 1000000);
        }
        CHECKS.due("gain", 59000000, () -> x.gain(0, 4));
        CHECKS.due("net", 59000000, () -> x.net(4));
        CHECKS.due("taxable", 59000000, () -> x.taxable(4));
        GainsReckoner y = new GainsReckoner();
        for (int i = 0; i < 59; i++) {
            y.buy(i % 3, 0, 1, 1000000);
        }
        y.sell(2, 0, 19, 0);
        CHECKS.due("loss of share 2", -19000000, () -> y.gain(2, 0));
        CHECKS.due("carried to the end", 19000000, () -> y.carried(4));
    }

    private static void wrongCalls() {
        GainsReckoner x = new GainsReckoner();
        gainOn(x, 0, 0, 10);
        for (int year : WRONG_YEARS) {
            CHECKS.due("gain of year " + year, Checks.INDEX, () -> x.gain(0, year));
            CHECKS.due("net of year " + year, Checks.INDEX, () -> x.net(year));
            CHECKS.due("carried out of year " + year, Checks.INDEX, () -> x.carried(year));
            CHECKS.due("taxable of year " + year, Checks.INDEX, () -> x.taxable(year));
        }
        for (int share : new int[] {-1, 3, Integer.MIN_VALUE, Integer.MAX_VALUE}) {
            CHECKS.due("gain of share " + share, Checks.INDEX, () -> x.gain(share, 0));
        }
    }
}
