import java.util.ArrayList;
import java.util.Comparator;
import java.util.List;

/**
 * The document's words done step by step over all 1825 days, slowly, to hold the class against.
 * It shares no code with the class and works in another way: three passes, matches sorted at the
 * end, parts of a cost put in order after all of them are known.
 */
final class Model {
    private static final int DAYS = 1825;

    record Trade(boolean sale, int share, int day, int count, int money) { }

    record Split(int day, int factor) { }

    /** A match; its cost and proceeds are known only when all matches are. */
    static final class Match {
        int kind;
        int saleDay;
        int buyDay;
        long units;
        long cost;
        long proceeds;
    }

    private final List<Trade> trades = new ArrayList<>();
    private final List<Boolean> cancelled = new ArrayList<>();
    private final List<List<Split>> splits =
        List.of(new ArrayList<>(), new ArrayList<>(), new ArrayList<>());
    private final long[] allowances = new long[5];
    private int window = 30;

    // What was reckoned of each share; null when an entry has made it stale.
    private final Reckoned[] known = new Reckoned[3];

    static final class Reckoned {
        final List<Match> matches = new ArrayList<>();
        final long[] poolUnits = new long[DAYS];
        final long[] poolCost = new long[DAYS];
    }

    private static void index(boolean ok) {
        if (!ok) {
            throw new IndexOutOfBoundsException();
        }
    }

    private static void argument(boolean ok) {
        if (!ok) {
            throw new IllegalArgumentException();
        }
    }

    private static void state(boolean ok) {
        if (!ok) {
            throw new IllegalStateException();
        }
    }

    private static boolean in(int x, int least, int most) {
        return least <= x && x <= most;
    }

    private static void place(int share, int day) {
        index(in(share, 0, 2) && in(day, 0, 1824));
    }

    private void forget() {
        known[0] = null;
        known[1] = null;
        known[2] = null;
    }

    int enter(boolean sale, int share, int day, int count, int money) {
        place(share, day);
        argument(in(count, 1, 1000) && in(money, 0, 1000000));
        state(trades.size() < 60);
        trades.add(new Trade(sale, share, day, count, money));
        cancelled.add(false);
        if (!neverBelowZero(share)) {
            trades.remove(trades.size() - 1);
            cancelled.remove(cancelled.size() - 1);
            state(false);
        }
        forget();
        return trades.size() - 1;
    }

    int split(int share, int day, int factor) {
        place(share, day);
        argument(in(factor, 2, 5));
        List<Split> own = splits.get(share);
        state(own.size() < 4 && own.stream().noneMatch(s -> s.day == day));
        own.add(new Split(day, factor));
        forget();
        return own.size();
    }

    void cancel(int trade) {
        index(trade >= 0 && trade < trades.size());
        state(!cancelled.get(trade));
        cancelled.set(trade, true);
        if (!neverBelowZero(trades.get(trade).share)) {
            cancelled.set(trade, false);
            state(false);
        }
        forget();
    }

    int setAllowance(int year, int amount) {
        index(in(year, 0, 4));
        argument(in(amount, 0, 1000000));
        long before = allowances[year];
        allowances[year] = amount;
        return (int) before;
    }

    int setWindow(int days) {
        argument(in(days, 0, 60));
        int before = window;
        window = days;
        forget();
        return before;
    }

    int trades() {
        return trades.size();
    }

    /** Lives through the days: splits at the beginning of a day, then its trades. */
    private long[] holdings(int share) {
        long[] atEnd = new long[DAYS];
        long held = 0;
        for (int day = 0; day < DAYS; day++) {
            for (Split s : splits.get(share)) {
                held *= s.day == day ? s.factor : 1;
            }
            for (int t = 0; t < trades.size(); t++) {
                Trade trade = trades.get(t);
                if (!cancelled.get(t) && trade.share == share && trade.day == day) {
                    held += trade.sale ? -trade.count : trade.count;
                }
            }
            atEnd[day] = held;
        }
        return atEnd;
    }

    private boolean neverBelowZero(int share) {
        for (long held : holdings(share)) {
            if (held < 0) {
                return false;
            }
        }
        return true;
    }

    long holding(int share, int day) {
        place(share, day);
        return holdings(share)[day];
    }

    long poolUnits(int share, int day) {
        place(share, day);
        return reckoned(share).poolUnits[day];
    }

    long poolCost(int share, int day) {
        place(share, day);
        return reckoned(share).poolCost[day];
    }

    long costIn(int share) {
        index(in(share, 0, 2));
        long sum = 0;
        for (int t = 0; t < trades.size(); t++) {
            Trade trade = trades.get(t);
            sum += trade.share == share && !trade.sale && !cancelled.get(t) ? trade.money : 0;
        }
        return sum;
    }

    long costMatched(int share) {
        index(in(share, 0, 2));
        return reckoned(share).matches.stream().mapToLong(m -> m.cost).sum();
    }

    int matches(int share) {
        index(in(share, 0, 2));
        return reckoned(share).matches.size();
    }

    Match match(int share, int match) {
        index(in(share, 0, 2) && match >= 0 && match < reckoned(share).matches.size());
        return reckoned(share).matches.get(match);
    }

    long gain(int share, int year) {
        index(in(share, 0, 2) && in(year, 0, 4));
        return reckoned(share).matches.stream().filter(m -> m.saleDay / 365 == year)
            .mapToLong(m -> m.proceeds - m.cost).sum();
    }

    long net(int year) {
        index(in(year, 0, 4));
        return gain(0, year) + gain(1, year) + gain(2, year);
    }

    long carried(int year) {
        return lossesAndTaxable(year)[0];
    }

    long taxable(int year) {
        return lossesAndTaxable(year)[1];
    }

    private long[] lossesAndTaxable(int year) {
        index(in(year, 0, 4));
        long[] answer = {0, 0};
        if (year > 0) {
            answer[0] = lossesAndTaxable(year - 1)[0];
        }
        long net = net(year);
        if (net < 0) {
            answer[0] += -net;
        } else {
            long above = net < allowances[year] ? 0 : net - allowances[year];
            long used = above < answer[0] ? above : answer[0];
            answer[0] -= used;
            answer[1] = above - used;
        }
        return answer;
    }

    private Reckoned reckoned(int share) {
        if (known[share] == null) {
            known[share] = new Reckoning(share).all();
        }
        return known[share];
    }

    /** The three steps of "Matches", one after the other. */
    private final class Reckoning {
        final Reckoned result = new Reckoned();
        final long[] buyUnits = new long[DAYS];
        final long[] buyCost = new long[DAYS];
        final long[] saleUnits = new long[DAYS];
        final long[] saleProceeds = new long[DAYS];
        final long[] buyLeft;
        final long[] saleLeft;

        Reckoning(int share) {
            for (int t = 0; t < trades.size(); t++) {
                Trade trade = trades.get(t);
                if (trade.share != share || cancelled.get(t)) {
                    continue;
                }
                long units = trade.count;
                for (Split s : splits.get(share)) {
                    units *= s.day > trade.day ? s.factor : 1;
                }
                (trade.sale ? saleUnits : buyUnits)[trade.day] += units;
                (trade.sale ? saleProceeds : buyCost)[trade.day] += trade.money;
            }
            buyLeft = buyUnits.clone();
            saleLeft = saleUnits.clone();
        }

        Reckoned all() {
            for (int day = 0; day < DAYS; day++) {
                matchToBuy(GainsReckoner.SAME_DAY, day, day);
            }
            for (int sale = 0; sale < DAYS; sale++) {
                for (int buy = sale + 1; saleLeft[sale] > 0 && buy < DAYS && buy <= sale + window; buy++) {
                    matchToBuy(GainsReckoner.LATER, sale, buy);
                }
            }
            shareOutCosts();
            pool();
            result.matches.sort(Comparator.<Match>comparingInt(m -> m.saleDay)
                .thenComparingInt(m -> m.kind).thenComparingInt(m -> m.buyDay));
            shareOutProceeds();
            return result;
        }

        private void matchToBuy(int kind, int sale, int buy) {
            long units = Math.min(saleLeft[sale], buyLeft[buy]);
            if (units > 0) {
                add(kind, sale, buy, units);
                buyLeft[buy] -= units;
            }
        }

        private Match add(int kind, int sale, int buy, long units) {
            Match m = new Match();
            m.kind = kind;
            m.saleDay = sale;
            m.buyDay = buy;
            m.units = units;
            saleLeft[sale] -= units;
            result.matches.add(m);
            return m;
        }

        private void shareOutCosts() {
            for (int day = 0; day < DAYS; day++) {
                if (buyUnits[day] == 0) {
                    continue;
                }
                int buy = day;
                List<Match> parts = new ArrayList<>(result.matches);
                parts.removeIf(m -> m.buyDay != buy);
                parts.sort(Comparator.comparingInt((Match m) -> m.kind == GainsReckoner.SAME_DAY ? -1 : m.saleDay));
                long j = 0;
                for (Match m : parts) {
                    long k = j + m.units;
                    m.cost = buyCost[day] * k / buyUnits[day] - buyCost[day] * j / buyUnits[day];
                    j = k;
                }
            }
        }

        private void pool() {
            long[] costLeft = buyCost.clone();
            for (Match m : result.matches) {
                costLeft[m.buyDay] -= m.cost;
            }
            long units = 0;
            long cost = 0;
            for (int day = 0; day < DAYS; day++) {
                units += buyLeft[day];
                cost += costLeft[day];
                if (saleLeft[day] > 0) {
                    Match m = add(GainsReckoner.POOL, day, GainsReckoner.NONE, saleLeft[day]);
                    m.cost = cost * m.units / units;
                    units -= m.units;
                    cost -= m.cost;
                }
                result.poolUnits[day] = units;
                result.poolCost[day] = cost;
            }
        }

        private void shareOutProceeds() {
            long[] out = new long[DAYS];
            for (Match m : result.matches) {
                long j = out[m.saleDay];
                long k = j + m.units;
                long c = saleProceeds[m.saleDay];
                m.proceeds = c * k / saleUnits[m.saleDay] - c * j / saleUnits[m.saleDay];
                out[m.saleDay] = k;
            }
        }
    }
}
