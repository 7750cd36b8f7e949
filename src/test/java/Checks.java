/** Counts and prints the answers that are not as due. Answers and exceptions are told as texts. */
final class Checks {
    interface Call {
        Object answer();
    }

    interface Deed {
        void run();
    }

    static final String INDEX = "throws.IndexOutOfBoundsException";
    static final String ARGUMENT = "throws.IllegalArgumentException";
    static final String STATE = "throws.IllegalStateException";

    private int looked = 0;
    private int wrong = 0;

    /** The answer of a call, or the very class of the exception that it throws. */
    static String told(Call call) {
        try {
            return String.valueOf(call.answer());
        } catch (RuntimeException e) {
            return "throws." + e.getClass().getSimpleName();
        }
    }

    static String told(Deed deed) {
        return told(() -> {
            deed.run();
            return "nothing";
        });
    }

    void due(String what, Object want, Call call) {
        same(what, String.valueOf(want), told(call));
    }

    void done(String what, Object want, Deed deed) {
        same(what, String.valueOf(want), told(deed));
    }

    void same(String what, Object want, Object got) {
        looked++;
        if (!String.valueOf(want).equals(String.valueOf(got))) {
            wrong++;
            System.out.println(what + " answered " + got + ", due is " + want);
        }
    }

    /** Every number of a share's matches, a row each: kind, sale, buy, units, cost, proceeds. */
    static String rows(GainsReckoner x, int share) {
        StringBuilder rows = new StringBuilder();
        for (int m = 0; m < x.matches(share); m++) {
            rows.append(m == 0 ? "" : "; ")
                .append(x.kindOf(share, m)).append(' ')
                .append(x.saleDay(share, m)).append(' ')
                .append(x.buyDay(share, m)).append(' ')
                .append(x.unitsOf(share, m)).append(' ')
                .append(x.costOf(share, m)).append(' ')
                .append(x.proceedsOf(share, m));
        }
        return rows.toString();
    }

    void end(String test) {
        System.out.println(test + ": " + looked + " answers looked at, " + wrong + " not as due");
        if (wrong != 0 || looked == 0) {
            System.exit(1);
        }
    }
}
