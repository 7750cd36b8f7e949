/** All that an object answers, as one text, so that two objects can be held against one another. */
final class Picture {
    private Picture() {
    }

    /** The answers of all questions; those about days are asked of these days. Changes nothing. */
    static String of(GainsReckoner x, int... days) {
        StringBuilder text = new StringBuilder("trades ").append(x.trades());
        for (int share = 0; share < 3; share++) {
            text.append("\nshare ").append(share)
                .append(": ").append(x.costIn(share))
                .append(' ').append(x.costMatched(share))
                .append(" [").append(Checks.rows(x, share)).append(']');
            for (int day : days) {
                text.append(' ').append(day)
                    .append(':').append(x.holding(share, day))
                    .append('/').append(x.poolUnits(share, day))
                    .append('/').append(x.poolCost(share, day));
            }
            for (int year = 0; year < 5; year++) {
                text.append(' ').append(x.gain(share, year));
            }
        }
        for (int year = 0; year < 5; year++) {
            text.append("\nyear ").append(year)
                .append(": ").append(x.net(year))
                .append(' ').append(x.carried(year))
                .append(' ').append(x.taxable(year));
        }
        return text.toString();
    }

    /**
     * What no question tells: the next number, the window, the allowances, how many splits there are
     * and which trades are cancelled. Asked by entries, so the object is of no use afterwards.
     */
    static String ofWhatIsHidden(GainsReckoner x) {
        int trades = x.trades();
        StringBuilder text = new StringBuilder("window ").append(x.setWindow(30)).append(" allowances");
        for (int year = 0; year < 5; year++) {
            text.append(' ').append(x.setAllowance(year, 0));
        }
        text.append(" next ").append(Checks.told(() -> x.buy(1, 1500, 1, 1))).append(" splits");
        for (int share = 0; share < 3; share++) {
            int s = share;
            text.append(' ').append(Checks.told(() -> x.split(s, 1501, 2)));
        }
        text.append(" cancels");
        for (int trade = trades - 1; trade >= 0; trade--) {
            int t = trade;
            text.append(' ').append(Checks.told(() -> x.cancel(t)));
        }
        return text.toString();
    }
}
