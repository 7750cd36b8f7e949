/**
 * Long runs of calls, right and wrong ones, each held against the slow Model. The calls come from a
 * written-out row of numbers, so that every run is the same each time. A step may ask of every match,
 * so a run goes beyond the 512 calls that the document promises; the class counts no calls.
 */
public final class LongRunsTest {
    private static final int RUNS = 240;
    private static final int STEPS = 512;
    private static final Checks CHECKS = new Checks();

    private final int run;
    private long seed;
    private final GainsReckoner x = new GainsReckoner();
    private final Model model = new Model();

    private LongRunsTest(int run) {
        this.run = run;
        this.seed = run * 7919L + 17;
    }

    public static void main(String[] args) {
        for (int run = 0; run < RUNS; run++) {
            new LongRunsTest(run).play();
        }
        CHECKS.end("LongRunsTest");
    }

    private int below(int bound) {
        seed = seed * 6364136223846793005L + 1442695040888963407L;
        return (int) ((seed >>> 33) % bound);
    }

    /** Mostly from least to most, now and then just outside. */
    private int about(int least, int most) {
        if (below(60) == 0) {
            return below(2) == 0 ? least - 1 : most + 1;
        }
        return least + below(most - least + 1);
    }

    private void play() {
        for (int step = 0; step < STEPS; step++) {
            // Entries come early in half of the runs, in between in the others.
            if (below(10) < (run % 2 == 0 && step > 150 ? 1 : 5)) {
                enter();
            } else {
                ask();
            }
        }
    }

    private int share() {
        return run % 3 == 0 ? about(0, 2) : below(12) == 0 ? about(0, 2) : 0;
    }

    /** Days close together in some runs, so that windows and same days matter; else all of them. */
    private int day() {
        switch (run % 4) {
            case 0: return about(0, 1824);
            case 1: return below(40) == 0 ? about(0, 1824) : 340 + below(60);
            case 2: return below(40) == 0 ? about(0, 1824) : 20 * below(8);
            default: return below(40) == 0 ? about(0, 1824) : 10 + below(6) + 365 * below(5);
        }
    }

    private int count() {
        return run % 5 == 0 ? about(1, 1000) : below(30) == 0 ? about(1, 1000) : 1 + below(12);
    }

    private int money() {
        return run % 7 == 0 ? about(0, 1000000) : below(30) == 0 ? about(0, 1000000) : below(500);
    }

    private void enter() {
        int kind = below(20);
        if (kind < 8) {
            trade(false);
        } else if (kind < 15) {
            trade(true);
        } else if (kind < 16) {
            int share = share();
            int day = day();
            int factor = about(2, 5);
            same("split " + share + " " + day + " " + factor,
                () -> model.split(share, day, factor), () -> x.split(share, day, factor));
        } else if (kind < 18) {
            int trade = below(model.trades() + 2) - (below(20) == 0 ? 1 : 0);
            CHECKS.same(run + ": cancel " + trade,
                Checks.told(() -> model.cancel(trade)), Checks.told(() -> x.cancel(trade)));
        } else if (kind < 19) {
            int year = about(0, 4);
            int amount = below(10) == 0 ? about(0, 1000000) : below(3000);
            same("setAllowance " + year + " " + amount,
                () -> model.setAllowance(year, amount), () -> x.setAllowance(year, amount));
        } else {
            int days = about(0, 60);
            same("setWindow " + days, () -> model.setWindow(days), () -> x.setWindow(days));
        }
    }

    private void trade(boolean sale) {
        int share = share();
        int day = day();
        int count = count();
        int money = money();
        same((sale ? "sell " : "buy ") + share + " " + day + " " + count + " " + money,
            () -> model.enter(sale, share, day, count, money),
            () -> sale ? x.sell(share, day, count, money) : x.buy(share, day, count, money));
    }

    private void ask() {
        int share = share();
        int day = day();
        int year = about(0, 4);
        switch (below(12)) {
            case 0: same("trades", () -> model.trades(), () -> x.trades()); break;
            case 1: same("holding", () -> model.holding(share, day), () -> x.holding(share, day)); break;
            case 2: same("poolUnits", () -> model.poolUnits(share, day), () -> x.poolUnits(share, day)); break;
            case 3: same("poolCost", () -> model.poolCost(share, day), () -> x.poolCost(share, day)); break;
            case 4: same("costIn", () -> model.costIn(share), () -> x.costIn(share)); break;
            case 5: same("costMatched", () -> model.costMatched(share), () -> x.costMatched(share)); break;
            case 6: same("gain", () -> model.gain(share, year), () -> x.gain(share, year)); break;
            case 7: same("net", () -> model.net(year), () -> x.net(year)); break;
            case 8: same("carried", () -> model.carried(year), () -> x.carried(year)); break;
            case 9: same("taxable", () -> model.taxable(year), () -> x.taxable(year)); break;
            default: askOfAMatch(share); break;
        }
    }

    private void askOfAMatch(int share) {
        same("matches", () -> model.matches(share), () -> x.matches(share));
        int all = share < 0 || share > 2 ? 0 : model.matches(share);
        for (int i = -1; i <= all; i++) {
            int m = i;
            same("kindOf", () -> model.match(share, m).kind, () -> x.kindOf(share, m));
            same("saleDay", () -> model.match(share, m).saleDay, () -> x.saleDay(share, m));
            same("buyDay", () -> model.match(share, m).buyDay, () -> x.buyDay(share, m));
            same("unitsOf", () -> model.match(share, m).units, () -> x.unitsOf(share, m));
            same("costOf", () -> model.match(share, m).cost, () -> x.costOf(share, m));
            same("proceedsOf", () -> model.match(share, m).proceeds, () -> x.proceedsOf(share, m));
        }
    }

    private void same(String what, Checks.Call due, Checks.Call got) {
        CHECKS.same(run + ": " + what, Checks.told(due), Checks.told(got));
    }
}
