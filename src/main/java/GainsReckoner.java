/**
 * A reckoner of gains from shares that were bought and sold: sales are matched to buys of the same
 * day, then to buys of the days that follow, then to a pool of averaged cost; shares are split;
 * gains and losses are added up by years, with allowances and losses that are carried on.
 *
 * <p>Every entry that changes something reckons its share anew, so that the questions only read.
 */
public final class GainsReckoner {
    /** None: the pool in place of a day. */
    public static final int NONE = -1;
    /** Kinds of matches: to the buy of the same day, to a later buy, to the pool. */
    public static final int SAME_DAY = 0, LATER = 1, POOL = 2;

    private static final int SHARES = 3;
    private static final int DAYS = 1825;
    private static final int DAYS_A_YEAR = 365;
    private static final int YEARS = 5;
    private static final int MOST_TRADES = 60;
    private static final int MOST_SPLITS = 4;
    private static final int MOST_COUNT = 1000;
    private static final int MOST_MONEY = 1000000;
    private static final int LEAST_FACTOR = 2;
    private static final int MOST_FACTOR = 5;
    private static final int MOST_WINDOW = 60;
    private static final int FIRST_WINDOW = 30;

    private final Journal journal;
    private final Ledger[] ledgers;
    private final int[] allowances;
    private int window;

    /** No trades and splits; all allowances are 0; the window is 30 days. */
    public GainsReckoner() {
        journal = new Journal();
        ledgers = new Ledger[SHARES];
        for (int share = 0; share < SHARES; share++) {
            ledgers[share] = new Ledger(share);
        }
        allowances = new int[YEARS];
        window = FIRST_WINDOW;
    }

    // ---- entries

    /** Enters a buy and returns the number of the trade. */
    public int buy(int share, int day, int count, int cost)
            throws IndexOutOfBoundsException, IllegalArgumentException, IllegalStateException {
        Ledger ledger = ledgerAt(share, day);
        checkTrade(count, cost);
        checkRoomForTrade();
        int number = journal.enter(false, share, day, count, cost);
        ledger.reckon(journal, window);
        return number;
    }

    /** Enters a sale and returns the number of the trade. */
    public int sell(int share, int day, int count, int proceeds)
            throws IndexOutOfBoundsException, IllegalArgumentException, IllegalStateException {
        Ledger ledger = ledgerAt(share, day);
        checkTrade(count, proceeds);
        checkRoomForTrade();
        checkCanSpare(ledger, day, count);
        int number = journal.enter(true, share, day, count, proceeds);
        ledger.reckon(journal, window);
        return number;
    }

    /** Enters a split and returns how many splits of the share there are then. */
    public int split(int share, int day, int factor)
            throws IndexOutOfBoundsException, IllegalArgumentException, IllegalStateException {
        Ledger ledger = ledgerAt(share, day);
        if (factor < LEAST_FACTOR || factor > MOST_FACTOR) {
            throw new IllegalArgumentException("the factor is out of range");
        }
        if (ledger.splits.isFull() || ledger.splits.hasDay(day)) {
            throw new IllegalStateException("no further split of the share, or none on that day");
        }
        // No holding can fall below 0 by a split: it makes more of what was held, never less.
        ledger.splits.enter(day, factor);
        ledger.reckon(journal, window);
        return ledger.splits.size;
    }

    /** Cancels a trade: all is as if it had not been entered, but its number is not given again. */
    public void cancel(int trade) throws IndexOutOfBoundsException, IllegalStateException {
        if (trade < 0 || trade >= journal.size) {
            throw new IndexOutOfBoundsException("there was no such trade");
        }
        if (journal.cancelled[trade]) {
            throw new IllegalStateException("the trade was cancelled");
        }
        Ledger ledger = ledgerAt(journal.share[trade], journal.day[trade]);
        if (!journal.sale[trade]) {
            checkCanSpare(ledger, journal.day[trade], journal.count[trade]);
        }
        journal.cancelled[trade] = true;
        ledger.reckon(journal, window);
    }

    /** Sets the allowance of a year and returns the one before. */
    public int setAllowance(int year, int amount)
            throws IndexOutOfBoundsException, IllegalArgumentException {
        checkYear(year);
        checkMoney(amount);
        int before = allowances[year];
        allowances[year] = amount;
        return before;
    }

    /** Sets for how many days after a sale buys are matched to it and returns the window before. */
    public int setWindow(int days) throws IllegalArgumentException {
        if (days < 0 || days > MOST_WINDOW) {
            throw new IllegalArgumentException("the window is out of range");
        }
        int before = window;
        window = days;
        for (int share = 0; share < SHARES; share++) {
            ledgers[share].reckon(journal, window);
        }
        return before;
    }

    // ---- holdings and pools

    /** Returns how many trades were entered, cancelled ones too. */
    public int trades() {
        return journal.size;
    }

    /** Returns the holding of a share at the end of a day, in the shares of that day. */
    public int holding(int share, int day) throws IndexOutOfBoundsException {
        return ledgerAt(share, day).heldShares(journal, day);
    }

    /** Returns the units of a share at the end of a day that are in its pool. */
    public int poolUnits(int share, int day) throws IndexOutOfBoundsException {
        Sheet sheet = ledgerAt(share, day).sheet;
        int row = sheet.lastRowUpTo(day);
        return row < 0 ? 0 : sheet.pooledUnits[row];
    }

    /** Returns the cost that is in the pool of a share at the end of a day. */
    public int poolCost(int share, int day) throws IndexOutOfBoundsException {
        Sheet sheet = ledgerAt(share, day).sheet;
        int row = sheet.lastRowUpTo(day);
        return row < 0 ? 0 : sheet.pooledCost[row];
    }

    /** Returns what all buys of a share cost, that were not cancelled. */
    public int costIn(int share) throws IndexOutOfBoundsException {
        return ledgerOf(share).sheet.costOfBuys();
    }

    /** Returns the cost of all matches of a share. */
    public int costMatched(int share) throws IndexOutOfBoundsException {
        return ledgerOf(share).matched.costOfAll();
    }

    // ---- matches: ordered by the days of their sales, those of one sale in the order in which its
    // proceeds are shared out

    /** Returns how many matches of a share there are. */
    public int matches(int share) throws IndexOutOfBoundsException {
        return ledgerOf(share).matched.size;
    }

    /** Returns the kind of a match: SAME_DAY, LATER or POOL. */
    public int kindOf(int share, int match) throws IndexOutOfBoundsException {
        return matchesWith(share, match).kind[match];
    }

    /** Returns the day of the sale of a match. */
    public int saleDay(int share, int match) throws IndexOutOfBoundsException {
        return matchesWith(share, match).soldOn[match];
    }

    /** Returns the day of the buy of a match; NONE for the pool. */
    public int buyDay(int share, int match) throws IndexOutOfBoundsException {
        return matchesWith(share, match).boughtOn[match];
    }

    /** Returns the units of a match. */
    public int unitsOf(int share, int match) throws IndexOutOfBoundsException {
        return matchesWith(share, match).units[match];
    }

    /** Returns the cost of a match. */
    public int costOf(int share, int match) throws IndexOutOfBoundsException {
        return matchesWith(share, match).cost[match];
    }

    /** Returns the proceeds of a match. */
    public int proceedsOf(int share, int match) throws IndexOutOfBoundsException {
        return matchesWith(share, match).proceeds[match];
    }

    // ---- years

    /** Returns the sum of the gains of a share in a year; below 0 for a loss. */
    public int gain(int share, int year) throws IndexOutOfBoundsException {
        Ledger ledger = ledgerOf(share);
        checkYear(year);
        return ledger.matched.gainOfYear(year);
    }

    /** Returns the net of a year. */
    public int net(int year) throws IndexOutOfBoundsException {
        checkYear(year);
        return netOfYear(year);
    }

    /** Returns the losses that are carried out of a year into the next one. */
    public int carried(int year) throws IndexOutOfBoundsException {
        checkYear(year);
        return lossesOutOf(year);
    }

    /** Returns what is taxable of a year. */
    public int taxable(int year) throws IndexOutOfBoundsException {
        checkYear(year);
        int above = aboveAllowance(year);
        return above - Math.min(lossesOutOf(year - 1), above);
    }

    private int netOfYear(int year) {
        int sum = 0;
        for (int share = 0; share < SHARES; share++) {
            sum += ledgers[share].matched.gainOfYear(year);
        }
        return sum;
    }

    private int aboveAllowance(int year) {
        return Math.max(0, netOfYear(year) - allowances[year]);
    }

    /** The losses carried out of a year; none out of the year before the first. */
    private int lossesOutOf(int year) {
        int losses = 0;
        for (int y = 0; y <= year && y < YEARS; y++) {
            int net = netOfYear(y);
            if (net < 0) {
                losses -= net;
            } else {
                losses -= Math.min(losses, aboveAllowance(y));
            }
        }
        return losses;
    }

    private Ledger ledgerOf(int share) {
        if (share < 0 || share >= SHARES) {
            throw new IndexOutOfBoundsException("there is no such share");
        }
        return ledgers[share];
    }

    private Ledger ledgerAt(int share, int day) {
        Ledger ledger = ledgerOf(share);
        if (day < 0 || day >= DAYS) {
            throw new IndexOutOfBoundsException("there is no such day");
        }
        return ledger;
    }

    private Matches matchesWith(int share, int match) {
        Matches matched = ledgerOf(share).matched;
        if (match < 0 || match >= matched.size) {
            throw new IndexOutOfBoundsException("there is no such match");
        }
        return matched;
    }

    private void checkRoomForTrade() {
        if (journal.isFull()) {
            throw new IllegalStateException("60 trades were entered");
        }
    }

    private static void checkYear(int year) {
        if (year < 0 || year >= YEARS) {
            throw new IndexOutOfBoundsException("there is no such year");
        }
    }

    private static void checkTrade(int count, int money) {
        if (count < 1 || count > MOST_COUNT) {
            throw new IllegalArgumentException("the count is out of range");
        }
        checkMoney(money);
    }

    private static void checkMoney(int money) {
        if (money < 0 || money > MOST_MONEY) {
            throw new IllegalArgumentException("the amount of money is out of range");
        }
    }

    /** Looks whether so many shares of a day can be taken away there, without a holding below 0. */
    private static void checkCanSpare(Ledger ledger, int day, int count) {
        int units = count * ledger.splits.factorBetween(day, DAYS);
        if (ledger.sheet.leastUnitsFrom(day) < units) {
            throw new IllegalStateException("the holding would be below 0 at the end of some day");
        }
    }

    /**
     * What is due to the units after the first 'from' up to the first 'to', of a total for 'whole'
     * units. The roundings are those of the sums so far, so that all parts add up to the total.
     */
    private static int part(int total, int from, int to, int whole) {
        if (whole <= 0) {
            return 0;
        }
        return (int) ((long) total * to / whole - (long) total * from / whole);
    }

    /** All trades by their numbers; cancelled ones stay, so that no number is given again. */
    private static final class Journal {
        private final boolean[] sale = new boolean[MOST_TRADES];
        private final boolean[] cancelled = new boolean[MOST_TRADES];
        private final int[] share = new int[MOST_TRADES];
        private final int[] day = new int[MOST_TRADES];
        private final int[] count = new int[MOST_TRADES];
        private final int[] money = new int[MOST_TRADES];
        private int size = 0;

        boolean isFull() {
            return size >= MOST_TRADES;
        }

        int enter(boolean isSale, int ofShare, int onDay, int shares, int cents) {
            if (isFull()) {
                return NONE;
            }
            int number = size;
            sale[number] = isSale;
            share[number] = ofShare;
            day[number] = onDay;
            count[number] = shares;
            money[number] = cents;
            size++;
            return number;
        }

        boolean counts(int trade, int ofShare) {
            return share[trade] == ofShare && !cancelled[trade];
        }
    }

    /** The splits of one share, in the order in which they were entered. */
    private static final class Splits {
        private final int[] day = new int[MOST_SPLITS];
        private final int[] factor = new int[MOST_SPLITS];
        private int size = 0;

        boolean isFull() {
            return size >= MOST_SPLITS;
        }

        boolean hasDay(int wanted) {
            for (int i = 0; i < size; i++) {
                if (day[i] == wanted) {
                    return true;
                }
            }
            return false;
        }

        void enter(int onDay, int times) {
            if (isFull()) {
                return;
            }
            day[size] = onDay;
            factor[size] = times;
            size++;
        }

        /** How many shares of the day 'to' a share of the day 'from' has become. */
        int factorBetween(int from, int to) {
            int product = 1;
            for (int i = 0; i < size; i++) {
                if (day[i] > from && day[i] <= to) {
                    product *= factor[i];
                }
            }
            return product;
        }
    }

    /** The days on which one share was traded, rising, a row for each, all counted in units. */
    private static final class Sheet {
        private final int[] day = new int[MOST_TRADES];
        private final int[] bought = new int[MOST_TRADES];
        private final int[] boughtGone = new int[MOST_TRADES];
        private final int[] cost = new int[MOST_TRADES];
        private final int[] sold = new int[MOST_TRADES];
        private final int[] soldGone = new int[MOST_TRADES];
        private final int[] proceeds = new int[MOST_TRADES];
        private final int[] pooledUnits = new int[MOST_TRADES];
        private final int[] pooledCost = new int[MOST_TRADES];
        private int size = 0;

        void fill(Journal journal, int share, Splits splits) {
            openRows(journal, share);
            for (int trade = 0; trade < journal.size; trade++) {
                if (journal.counts(trade, share)) {
                    int units = journal.count[trade] * splits.factorBetween(journal.day[trade], DAYS);
                    addTrade(journal, trade, units);
                }
            }
            setSameDaysAside();
        }

        private void openRows(Journal journal, int share) {
            size = 0;
            for (int trade = 0; trade < journal.size; trade++) {
                if (journal.counts(trade, share)) {
                    openRow(journal.day[trade]);
                }
            }
            for (int row = 0; row < size; row++) {
                bought[row] = 0;
                cost[row] = 0;
                sold[row] = 0;
                proceeds[row] = 0;
            }
        }

        private void openRow(int newDay) {
            int before = lastRowUpTo(newDay);
            if (size >= MOST_TRADES || before >= 0 && day[before] == newDay) {
                return;
            }
            for (int row = size; row > before + 1; row--) {
                day[row] = day[row - 1];
            }
            day[before + 1] = newDay;
            size++;
        }

        private void addTrade(Journal journal, int trade, int units) {
            int row = lastRowUpTo(journal.day[trade]);
            if (row < 0) {
                return;
            }
            if (journal.sale[trade]) {
                sold[row] += units;
                proceeds[row] += journal.money[trade];
            } else {
                bought[row] += units;
                cost[row] += journal.money[trade];
            }
        }

        /** Same days come before all later ones: no earlier sale may take what they need. */
        private void setSameDaysAside() {
            for (int row = 0; row < size; row++) {
                int units = Math.min(bought[row], sold[row]);
                boughtGone[row] = units;
                soldGone[row] = units;
            }
        }

        /** The last row of a day that is not after the one given; -1 if there is none. */
        int lastRowUpTo(int lastDay) {
            int found = -1;
            for (int row = 0; row < size && day[row] <= lastDay; row++) {
                found = row;
            }
            return found;
        }

        /** The smallest holding, in units, at the end of this day or of any day after it. */
        int leastUnitsFrom(int firstDay) {
            int held = 0;
            int row = 0;
            for (; row < size && day[row] <= firstDay; row++) {
                held += bought[row] - sold[row];
            }
            int least = held;
            for (; row < size; row++) {
                held += bought[row] - sold[row];
                least = Math.min(least, held);
            }
            return least;
        }

        int costOfBuys() {
            int sum = 0;
            for (int row = 0; row < size; row++) {
                sum += cost[row];
            }
            return sum;
        }
    }

    /** The matches of one share, in the order in which they are told. */
    private static final class Matches {
        // A match uses up what was left of a day's buy or sale, so there are no more than trades.
        private final int[] kind = new int[MOST_TRADES];
        private final int[] soldOn = new int[MOST_TRADES];
        private final int[] boughtOn = new int[MOST_TRADES];
        private final int[] units = new int[MOST_TRADES];
        private final int[] cost = new int[MOST_TRADES];
        private final int[] proceeds = new int[MOST_TRADES];
        private int size = 0;

        void add(int itsKind, int saleOn, int buyOn, int itsUnits, int itsCost, int itsProceeds) {
            if (size >= MOST_TRADES) {
                return;
            }
            kind[size] = itsKind;
            soldOn[size] = saleOn;
            boughtOn[size] = buyOn;
            units[size] = itsUnits;
            cost[size] = itsCost;
            proceeds[size] = itsProceeds;
            size++;
        }

        int costOfAll() {
            int sum = 0;
            for (int match = 0; match < size; match++) {
                sum += cost[match];
            }
            return sum;
        }

        int gainOfYear(int year) {
            int sum = 0;
            for (int match = 0; match < size; match++) {
                if (soldOn[match] / DAYS_A_YEAR == year) {
                    sum += proceeds[match] - cost[match];
                }
            }
            return sum;
        }
    }

    /** All that is reckoned of one share. */
    private static final class Ledger {
        private final int share;
        private final Splits splits = new Splits();
        private final Sheet sheet = new Sheet();
        private final Matches matched = new Matches();

        Ledger(int itsShare) {
            share = itsShare;
        }

        /**
         * One walk over the days does: when a day is reached, all earlier sales have taken of its
         * buy what they may, so what is left of it goes into the pool.
         */
        void reckon(Journal journal, int window) {
            sheet.fill(journal, share, splits);
            matched.size = 0;
            for (int row = 0; row < sheet.size; row++) {
                matchSameDay(row);
                matchLaterDays(row, window);
                pool(row);
            }
        }

        int heldShares(Journal journal, int lastDay) {
            int held = 0;
            for (int trade = 0; trade < journal.size; trade++) {
                int day = journal.day[trade];
                if (journal.counts(trade, share) && day <= lastDay) {
                    int shares = journal.count[trade] * splits.factorBetween(day, lastDay);
                    held += journal.sale[trade] ? -shares : shares;
                }
            }
            return held;
        }

        private void matchSameDay(int row) {
            int units = Math.min(sheet.bought[row], sheet.sold[row]);
            if (units > 0) {
                int cost = part(sheet.cost[row], 0, units, sheet.bought[row]);
                int proceeds = part(sheet.proceeds[row], 0, units, sheet.sold[row]);
                matched.add(SAME_DAY, sheet.day[row], sheet.day[row], units, cost, proceeds);
            }
        }

        private void matchLaterDays(int sale, int window) {
            int lastDay = sheet.day[sale] + window;
            for (int buy = sale + 1; buy < sheet.size && sheet.day[buy] <= lastDay; buy++) {
                int left = sheet.bought[buy] - sheet.boughtGone[buy];
                int units = Math.min(left, sheet.sold[sale] - sheet.soldGone[sale]);
                if (units > 0) {
                    int cost = takeBought(buy, units);
                    int proceeds = takeSold(sale, units);
                    matched.add(LATER, sheet.day[sale], sheet.day[buy], units, cost, proceeds);
                }
            }
        }

        private void pool(int row) {
            int units = row > 0 ? sheet.pooledUnits[row - 1] : 0;
            int cost = row > 0 ? sheet.pooledCost[row - 1] : 0;
            int left = sheet.bought[row] - sheet.boughtGone[row];
            units += left;
            cost += takeBought(row, left);
            int sold = sheet.sold[row] - sheet.soldGone[row];
            if (sold > 0) {
                int taken = part(cost, 0, sold, units);
                units -= sold;
                cost -= taken;
                matched.add(POOL, sheet.day[row], NONE, sold, taken, takeSold(row, sold));
            }
            sheet.pooledUnits[row] = units;
            sheet.pooledCost[row] = cost;
        }

        /** Takes the next units of a day's buy and returns their cost. */
        private int takeBought(int row, int units) {
            int from = sheet.boughtGone[row];
            sheet.boughtGone[row] = from + units;
            return part(sheet.cost[row], from, from + units, sheet.bought[row]);
        }

        /** Takes the next units of a day's sale and returns their proceeds. */
        private int takeSold(int row, int units) {
            int from = sheet.soldGone[row];
            sheet.soldGone[row] = from + units;
            return part(sheet.proceeds[row], from, from + units, sheet.sold[row]);
        }
    }
}
