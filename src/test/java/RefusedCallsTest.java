import java.util.function.Consumer;

/**
 * "A call that throws an exception changes nothing; if several exceptions apply, the one that its
 * @throws lines name first is thrown." Every entry with every mix of right and wrong arguments, on
 * the edges of their ranges, in every state that matters; and whole objects before and after refusals.
 */
public final class RefusedCallsTest {
    private static final Checks CHECKS = new Checks();
    private static final int MIN = Integer.MIN_VALUE;
    private static final int MAX = Integer.MAX_VALUE;
    private static final int[] SHARES = {0, 1, 2, -1, 3, MIN, MAX};
    private static final int[] DAYS = {0, 1824, -1, 1825, MIN, MAX};
    private static final int[] COUNTS = {1, 1000, 0, -1, 1001, MIN, MAX};
    private static final int[] MONEYS = {0, 1000000, -1, 1000001, MIN, MAX};
    private static final int[] FACTORS = {2, 5, 1, 6, 0, -2, MIN, MAX};
    private static final int[] YEARS = {0, 4, -1, 5, MIN, MAX};
    private static final int[] WINDOWS = {0, 60, -1, 61, MIN, MAX};
    private static final int[] LOOKED_AT = {0, 99, 100, 110, 119, 120, 140, 364, 365, 399, 400, 1824};

    public static void main(String[] args) {
        buysOfEveryMix();
        salesOfEveryMix();
        splitsOfEveryMix();
        cancelsOfEveryTrade();
        allowancesOfEveryMix();
        windowsOfEverySize();
        questionsOfEveryMix();
        refusedCallsChangeNothing();
        questionsChangeNothing();
        CHECKS.end("RefusedCallsTest");
    }

    private static boolean in(int x, int least, int most) {
        return least <= x && x <= most;
    }

    /** The exception that is due by the order of the @throws lines; what is due else. */
    private static Object due(boolean index, boolean argument, boolean state, Object otherwise) {
        return !index ? Checks.INDEX : !argument ? Checks.ARGUMENT : !state ? Checks.STATE : otherwise;
    }

    private static boolean place(int share, int day) {
        return in(share, 0, 2) && in(day, 0, 1824);
    }

    private static boolean trade(int count, int money) {
        return in(count, 1, 1000) && in(money, 0, 1000000);
    }

    /** So many buys of 1000 shares each, of the shares in turn, all on day 0. */
    private static GainsReckoner after(int buys) {
        GainsReckoner x = new GainsReckoner();
        for (int i = 0; i < buys; i++) {
            x.buy(i % 3, 0, 1000, 10);
        }
        return x;
    }

    private interface Mix {
        void look(int share, int day, int count, int money);
    }

    private static void everyMix(Mix mix) {
        for (int share : SHARES) {
            for (int day : DAYS) {
                for (int count : COUNTS) {
                    for (int money : MONEYS) {
                        mix.look(share, day, count, money);
                    }
                }
            }
        }
    }

    private static void buysOfEveryMix() {
        for (int entered : new int[] {0, 59, 60}) {
            everyMix((share, day, count, money) -> {
                GainsReckoner x = after(entered);
                Object due = due(place(share, day), trade(count, money), entered < 60, entered);
                String what = entered + " trades, buy " + share + " " + day + " " + count + " " + money;
                CHECKS.due(what, due, () -> x.buy(share, day, count, money));
            });
        }
    }

    private static void salesOfEveryMix() {
        for (int entered : new int[] {0, 59, 60}) {
            everyMix((share, day, count, money) -> {
                GainsReckoner x = after(entered);
                Object due = due(place(share, day), trade(count, money), entered == 59, entered);
                String what = entered + " trades, sell " + share + " " + day + " " + count + " " + money;
                CHECKS.due(what, due, () -> x.sell(share, day, count, money));
            });
        }
    }

    /** An object with these splits of every share. */
    private static GainsReckoner withSplits(int... days) {
        GainsReckoner x = new GainsReckoner();
        for (int share = 0; share < 3; share++) {
            for (int day : days) {
                x.split(share, day, 2);
            }
        }
        return x;
    }

    private static void splitsOfEveryMix() {
        int[][] before = {{}, {7}, {0}, {1824}, {7, 8, 9}, {0, 7, 1824}, {7, 8, 9, 10}, {0, 7, 8, 1824}};
        for (int[] days : before) {
            for (int share : SHARES) {
                for (int day : DAYS) {
                    for (int factor : FACTORS) {
                        GainsReckoner x = withSplits(days);
                        boolean state = days.length < 4;
                        for (int taken : days) {
                            state &= taken != day;
                        }
                        Object due = due(place(share, day), in(factor, 2, 5), state, days.length + 1);
                        String what = days.length + " splits, split " + share + " " + day + " " + factor;
                        CHECKS.due(what, due, () -> x.split(share, day, factor));
                    }
                }
            }
        }
    }

    /** Of no trade, one and sixty: each once, twice, and the numbers just outside. */
    private static void cancelsOfEveryTrade() {
        for (int entered : new int[] {0, 1, 60}) {
            for (int trade : new int[] {-1, 0, 1, 59, 60, 61, MIN, MAX}) {
                GainsReckoner x = after(entered);
                boolean there = in(trade, 0, entered - 1);
                String what = entered + " trades, cancel " + trade;
                CHECKS.done(what, due(there, true, true, "nothing"), () -> x.cancel(trade));
                CHECKS.done(what + " again", due(there, true, false, "nothing"), () -> x.cancel(trade));
            }
        }
    }

    private static void allowancesOfEveryMix() {
        for (int year : YEARS) {
            for (int amount : MONEYS) {
                GainsReckoner x = new GainsReckoner();
                boolean index = in(year, 0, 4);
                boolean argument = in(amount, 0, 1000000);
                String what = "setAllowance " + year + " " + amount;
                CHECKS.due(what, due(index, argument, true, 0), () -> x.setAllowance(year, amount));
                CHECKS.due(what + " again", due(index, argument, true, amount), () -> x.setAllowance(year, amount));
            }
        }
    }

    private static void windowsOfEverySize() {
        for (int days : WINDOWS) {
            GainsReckoner x = new GainsReckoner();
            boolean argument = in(days, 0, 60);
            CHECKS.due("setWindow " + days, due(true, argument, true, 30), () -> x.setWindow(days));
            CHECKS.due("the window after " + days, argument ? days : 30, () -> x.setWindow(1));
        }
    }

    private static void questionsOfEveryMix() {
        GainsReckoner x = new GainsReckoner();
        for (int share : SHARES) {
            boolean there = in(share, 0, 2);
            CHECKS.due("costIn " + share, due(there, true, true, 0), () -> x.costIn(share));
            CHECKS.due("costMatched " + share, due(there, true, true, 0), () -> x.costMatched(share));
            CHECKS.due("matches " + share, due(there, true, true, 0), () -> x.matches(share));
            for (int day : DAYS) {
                Object due = due(place(share, day), true, true, 0);
                String where = " " + share + " " + day;
                CHECKS.due("holding" + where, due, () -> x.holding(share, day));
                CHECKS.due("poolUnits" + where, due, () -> x.poolUnits(share, day));
                CHECKS.due("poolCost" + where, due, () -> x.poolCost(share, day));
            }
            for (int year : YEARS) {
                Object due = due(there && in(year, 0, 4), true, true, 0);
                CHECKS.due("gain " + share + " " + year, due, () -> x.gain(share, year));
            }
        }
        for (int year : YEARS) {
            Object due = due(in(year, 0, 4), true, true, 0);
            CHECKS.due("net " + year, due, () -> x.net(year));
            CHECKS.due("carried " + year, due, () -> x.carried(year));
            CHECKS.due("taxable " + year, due, () -> x.taxable(year));
        }
    }

    /** Something of all: splits, every kind of match, a cancelled trade, a loss, an allowance. */
    private static void story(GainsReckoner x) {
        x.setWindow(20);
        x.setAllowance(1, 100);
        x.buy(0, 100, 10, 1000);     // 0
        x.split(0, 120, 2);
        x.sell(0, 110, 6, 500);      // 1: 12 units
        x.buy(0, 120, 7, 300);       // 2
        x.sell(0, 120, 2, 90);       // 3
        x.buy(1, 365, 3, 50);        // 4
        x.sell(1, 400, 2, 700);      // 5
        x.sell(1, 400, 1, 1);        // 6
        x.cancel(6);
        x.split(2, 0, 2);
        x.split(2, 1, 3);
        x.split(2, 2, 4);
        x.split(2, 1824, 5);
        x.buy(2, 0, 1, 77);          // 7
        x.sell(2, 1824, 60, 99);     // 8: all units of the one share of day 0
    }

    private static GainsReckoner told(Consumer<GainsReckoner> story) {
        GainsReckoner x = new GainsReckoner();
        story.accept(x);
        return x;
    }

    /** Sixty trades and four splits of each share. */
    private static void fullStory(GainsReckoner x) {
        for (int i = 0; i < 57; i++) {
            x.buy(i % 3, 100 + i % 5 * 10, 1 + i, 10 * i);
        }
        for (int share = 0; share < 3; share++) {
            for (int day = 0; day < 4; day++) {
                x.split(share, 399 + day, 2 + day);
            }
            x.sell(share, 110, 1 + share, 1000);
        }
        x.setWindow(60);
        x.setAllowance(0, 300);
    }

    private static void refused(String what, Object due, Consumer<GainsReckoner> story, Consumer<GainsReckoner> call) {
        GainsReckoner x = told(story);
        CHECKS.done(what, due, () -> call.accept(x));
        CHECKS.same(what + ": answers after it", Picture.of(told(story), LOOKED_AT), Picture.of(x, LOOKED_AT));
        CHECKS.same(what + ": hidden after it", Picture.ofWhatIsHidden(told(story)), Picture.ofWhatIsHidden(x));
    }

    private static void refusedCallsChangeNothing() {
        Consumer<GainsReckoner> some = RefusedCallsTest::story;
        Consumer<GainsReckoner> full = RefusedCallsTest::fullStory;
        refused("buy of no share", Checks.INDEX, some, x -> x.buy(3, 100, 1, 1));
        refused("buy on no day", Checks.INDEX, some, x -> x.buy(0, 1825, 1, 1));
        refused("buy of too few", Checks.ARGUMENT, some, x -> x.buy(0, 100, 0, 1));
        refused("buy at too much", Checks.ARGUMENT, some, x -> x.buy(0, 100, 1, 1000001));
        refused("buy too many", Checks.STATE, full, x -> x.buy(0, 100, 1, 1));
        refused("sell of no share", Checks.INDEX, some, x -> x.sell(-1, 120, 1, 1));
        refused("sell on no day", Checks.INDEX, some, x -> x.sell(0, -1, 1, 1));
        refused("sell of too many", Checks.ARGUMENT, some, x -> x.sell(0, 120, 1001, 1));
        refused("sell at too little", Checks.ARGUMENT, some, x -> x.sell(0, 120, 1, -1));
        refused("sell of what is not held", Checks.STATE, some, x -> x.sell(0, 1824, 14, 1));
        refused("sell of what is sold later", Checks.STATE, some, x -> x.sell(2, 0, 1, 1));
        refused("sell too many", Checks.STATE, full, x -> x.sell(0, 140, 1, 1));
        refused("split of no share", Checks.INDEX, some, x -> x.split(3, 110, 2));
        refused("split on no day", Checks.INDEX, some, x -> x.split(0, 1825, 2));
        refused("split by too little", Checks.ARGUMENT, some, x -> x.split(0, 110, 1));
        refused("split by too much", Checks.ARGUMENT, some, x -> x.split(0, 110, 6));
        refused("split twice a day", Checks.STATE, some, x -> x.split(0, 120, 3));
        refused("fifth split", Checks.STATE, some, x -> x.split(2, 110, 2));
        refused("fifth split of another", Checks.STATE, full, x -> x.split(1, 110, 2));
        refused("cancel of no trade", Checks.INDEX, some, x -> x.cancel(9));
        refused("cancel of -1", Checks.INDEX, some, x -> x.cancel(-1));
        refused("cancel of a cancelled one", Checks.STATE, some, x -> x.cancel(6));
        refused("cancel of a needed one", Checks.STATE, some, x -> x.cancel(0));
        refused("cancel of one needed late", Checks.STATE, some, x -> x.cancel(7));
        refused("cancel of the sixty-first", Checks.INDEX, full, x -> x.cancel(60));
        refused("allowance of no year", Checks.INDEX, some, x -> x.setAllowance(5, 1));
        refused("allowance too small", Checks.ARGUMENT, some, x -> x.setAllowance(1, -1));
        refused("allowance too large", Checks.ARGUMENT, some, x -> x.setAllowance(1, 1000001));
        refused("window too small", Checks.ARGUMENT, some, x -> x.setWindow(-1));
        refused("window too large", Checks.ARGUMENT, some, x -> x.setWindow(61));
    }

    private static void questionsChangeNothing() {
        GainsReckoner x = told(RefusedCallsTest::story);
        CHECKS.same("asked twice", Picture.of(x, LOOKED_AT), Picture.of(x, LOOKED_AT));
        CHECKS.due("no such match", Checks.INDEX, () -> x.costOf(1, 1));
        CHECKS.due("no such day", Checks.INDEX, () -> x.poolCost(0, -1));
        CHECKS.due("no such year", Checks.INDEX, () -> x.taxable(5));
        GainsReckoner y = told(RefusedCallsTest::story);
        CHECKS.same("answers of an unasked one", Picture.of(y, LOOKED_AT), Picture.of(x, LOOKED_AT));
        CHECKS.same("hidden after questions", Picture.ofWhatIsHidden(told(RefusedCallsTest::story)),
            Picture.ofWhatIsHidden(x));
    }
}
