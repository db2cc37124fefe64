/** The boundary cases of promises 7 to 9 and 13 to 16: law, plain, number, always, breaks, prove, share. */
final class LawEdges {
    private static final String LAW = "A LAW's number of a SET (1 to 7) becomes k: true; false, doing nothing: none such.";
    private static final String PLAIN = "A LAW becomes a PLAIN one: true; false: none such.";
    private static final String NUMBER = "A LAW's number of a SET; NONE - 10 (-11): none such.";
    private static final String ALWAYS = "Whether a LAW holds always: its SUM by each of the eight ROWS by which all Givens"
        + " (bits 0 to 8: PLAIN ones that are nought) are 0 is 0 at least: 1; 0.";
    private static final String ALWAYS_NONE = "NONE: no such law, Givens outside 0 to 511.";
    private static final String BREAKS = "The first ROW by which the Givens are 0 and the LAW's SUM is below 0.";
    private static final String BREAKS_NONE = "NONE: there is none, or as always().";
    private static final String PROVE = "Whether a LAW is PLAIN ones with shares: of all pairs i below j of PLAIN ones, i,"
        + " then j rising, the first for which there is just one row of shares with those of i and j 0, and none is"
        + " below 0: true (share() tells it then).";
    private static final String PROVE_FALSE = "False, the latest stays: none, or no such law.";
    private static final String SHARE = "Share k (0 to 8) that the latest prove() that was true found, in lowest terms:"
        + " its upper number (what 0), lower one (1; above 0).";
    private static final String SHARE_NONE = "NONE: none such, none was.";

    /** Laws, for the sets 1 to 7, which only the row of the same number breaks, by -1. */
    private static final int[][] BROKEN_BY_ROW = {
        {0, 0, 0, 0, 0, 1, -1},
        {0, 0, 0, 0, 1, 0, -1},
        {0, 0, 1, 0, 0, 0, -1},
        {0, -1, 1, 1, -1, 0, 0},
        {0, 1, -1, -1, 1, 0, 0},
        {1, 0, -1, -1, 0, 1, 0},
        {-1, -1, 1, -1, 1, 1, -1},
        {1, 1, -1, 1, -1, -1, 1},
    };

    private final Sentences s;

    private LawEdges(Sentences s) {
        this.s = s;
    }

    static void all(Sentences s) {
        LawEdges edges = new LawEdges(s);
        edges.law();
        edges.plain();
        edges.number();
        edges.always();
        edges.breaks();
        edges.prove();
        edges.share();
    }

    private void law() {
        leastAndGreatestNumber();
        noSuchLaw();
        noSuchSet();
        noSuchNumber();
    }

    private void leastAndGreatestNumber() {
        s.hold("Promise 7", LAW);
        TellingBench x = new TellingBench();
        for (int l : new int[] {0, 9}) {
            for (int set = 1; set <= 7; set++) {
                for (int k = -2; k <= 2; k++) {
                    s.yes("law(" + l + ", " + set + ", " + k + ")", x.law(l, set, k));
                    s.is("number(" + l + ", " + set + ")", x.number(l, set), k);
                }
            }
        }
        for (int set = 1; set <= 7; set++) {
            s.is("a law beside, set " + set, x.number(1, set), 0);
            s.is("a law beside, set " + set, x.number(8, set), 0);
        }
    }

    /** Asks a full bench for numbers that it must refuse, and that it is as before. */
    private void refusesLaw(int l, int set, int k) {
        TellingBench x = Scene.full();
        String before = Scene.all(x);
        s.no("law(" + l + ", " + set + ", " + k + ")", x.law(l, set, k));
        s.same("nothing is done", Scene.all(x), before);
    }

    private void noSuchLaw() {
        s.hold("Promise 7", LAW);
        for (int l : Scene.outside(0, 9)) {
            refusesLaw(l, 1, 0);
        }
    }

    private void noSuchSet() {
        s.hold("Promise 7", LAW);
        for (int set : Scene.outside(1, 7)) {
            refusesLaw(0, set, 0);
        }
        for (int set = 8; set <= 15; set++) {
            refusesLaw(4, set, 0);
        }
    }

    private void noSuchNumber() {
        s.hold("Promise 7", LAW);
        for (int k : Scene.outside(-2, 2)) {
            refusesLaw(4, 7, k);
        }
    }

    private void plain() {
        firstAndLastPlainOne();
        plainOfNoLaw();
        noSuchPlainOne();
    }

    private void firstAndLastPlainOne() {
        s.hold("Promise 8", PLAIN);
        TellingBench x = new TellingBench();
        for (int l : new int[] {0, 9}) {
            Scene.put(x, l, 2, 2, 2, 2, 2, 2, 2);
            s.yes("plain(" + l + ", 0)", x.plain(l, 0));
            numbersAre(x, l, 0, 0, 0, 0, 0, -1, 1);
            s.yes("plain(" + l + ", 8)", x.plain(l, 8));
            numbersAre(x, l, -1, 0, 1, 0, 1, 0, -1);
        }
        numbersAre(x, 1, 0, 0, 0, 0, 0, 0, 0);
        s.yes("law(0, 1, 2)", x.law(0, 1, 2) && x.plain(1, 8));
        numbersAre(x, 1, -1, 0, 1, 0, 1, 0, -1);
    }

    private void numbersAre(TellingBench x, int l, int... numbers) {
        for (int set = 1; set <= 7; set++) {
            s.is("number(" + l + ", " + set + ")", x.number(l, set), numbers[set - 1]);
        }
    }

    /** Asks a full bench for a plain one that it must refuse, and that it is as before. */
    private void refusesPlain(int l, int p) {
        TellingBench x = Scene.full();
        String before = Scene.all(x);
        s.no("plain(" + l + ", " + p + ")", x.plain(l, p));
        s.same("nothing is done", Scene.all(x), before);
    }

    private void plainOfNoLaw() {
        s.hold("Promise 8", PLAIN);
        for (int l : Scene.outside(0, 9)) {
            refusesPlain(l, 3);
        }
    }

    private void noSuchPlainOne() {
        s.hold("Promise 8", PLAIN);
        for (int p : Scene.outside(0, 8)) {
            refusesPlain(0, p);
        }
    }

    private void number() {
        firstAndLastNumber();
        numberOfNoLaw();
        numberOfNoSet();
    }

    private void firstAndLastNumber() {
        s.hold("Promise 9", NUMBER);
        TellingBench x = new TellingBench();
        x.law(0, 1, -2);
        x.law(9, 7, 2);
        x.law(5, 4, -1);
        s.is("number(0, 1)", x.number(0, 1), -2);
        s.is("number(9, 7)", x.number(9, 7), 2);
        s.is("a number that is -1, as NONE is", x.number(5, 4), -1);
        s.is("number(9, 1)", x.number(9, 1), 0);
        s.is("number(0, 7)", x.number(0, 7), 0);
    }

    private void numberOfNoLaw() {
        s.hold("Promise 9", NUMBER);
        TellingBench x = Scene.full();
        for (int l : Scene.outside(0, 9)) {
            s.is("number(" + l + ", 1)", x.number(l, 1), -11);
            s.is("number(" + l + ", 7)", x.number(l, 7), -11);
        }
    }

    private void numberOfNoSet() {
        s.hold("Promise 9", NUMBER);
        TellingBench x = Scene.full();
        for (int set : Scene.outside(1, 7)) {
            s.is("number(0, " + set + ")", x.number(0, set), -11);
            s.is("number(9, " + set + ")", x.number(9, set), -11);
        }
    }

    private void always() {
        noughtIsEnough();
        eachRowBreaks();
        allGivensOrNone();
        eachGivenCounts();
        alwaysOfNoLaw();
        alwaysOfNoGivens();
    }

    private void noughtIsEnough() {
        s.hold("Promise 13", ALWAYS);
        TellingBench x = new TellingBench();
        s.is("the law of noughts", x.always(0, 0), 1);
        for (int p = 0; p < 9; p++) {
            x.plain(1, p);
            s.is("plain one " + p + ", nought by most rows", x.always(1, 0), 1);
        }
        Scene.put(x, 2, 1, 1, -1, 1, -1, -1, 1);
        s.is("-1 by row 7 alone", x.always(2, 0), 0);
        s.is("0 by the other rows", x.always(2, 64), 1);
        Scene.put(x, 3, 2, 0, -1, 0, 0, 0, 0);
        s.is("-1 by rows 1 and 5, nought by rows 2 and 7", x.always(3, 0), 0);
        s.is("row 1 not counted", x.always(3, 2), 0);
        s.is("rows 1 and 5 not counted", x.always(3, 34), 1);
    }

    private void eachRowBreaks() {
        s.hold("Promise 13", ALWAYS);
        TellingBench x = new TellingBench();
        for (int row = 0; row < 8; row++) {
            Scene.put(x, row, BROKEN_BY_ROW[row]);
            s.is("broken by row " + row + " alone", x.always(row, 0), 0);
            s.is("it alone left", x.always(row, TermEdges.GIVENS_OF_ROW[row]), 0);
            for (int other = 0; other < 8; other++) {
                int due = other == row ? 0 : 1;
                s.is("law " + row + " by row " + other, x.always(row, TermEdges.GIVENS_OF_ROW[other]), due);
            }
        }
    }

    private void allGivensOrNone() {
        s.hold("Promise 13", ALWAYS);
        TellingBench x = new TellingBench();
        Scene.put(x, 9, -2, -2, -2, -2, -2, -2, -2);
        s.is("all nine given: no row is left", x.always(9, 511), 1);
        s.is("none given: all rows count", x.always(9, 0), 0);
    }

    private void eachGivenCounts() {
        s.hold("Promise 13", ALWAYS);
        int[][] takenAway = {{0}, {1}, {2}, {3, 6}, {4, 6}, {5, 6}, {3, 7}, {4, 7}, {5, 7}};
        TellingBench x = new TellingBench();
        for (int row = 0; row < 8; row++) {
            Scene.put(x, row, BROKEN_BY_ROW[row]);
        }
        for (int given = 0; given < 9; given++) {
            for (int row = 0; row < 8; row++) {
                boolean taken = takenAway[given][0] == row || takenAway[given][takenAway[given].length - 1] == row;
                s.is("plain one " + given + " is nought, row " + row, x.always(row, 1 << given), taken ? 1 : 0);
            }
        }
    }

    private void alwaysOfNoLaw() {
        s.hold("Promise 13", ALWAYS_NONE);
        TellingBench x = Scene.full();
        for (int l : Scene.outside(0, 9)) {
            s.is("always(" + l + ", 0)", x.always(l, 0), -1);
            s.is("always(" + l + ", 511)", x.always(l, 511), -1);
        }
        s.is("always(0, 0)", x.always(0, 0), 0);
        s.is("always(9, 0)", x.always(9, 0), 1);
    }

    private void alwaysOfNoGivens() {
        s.hold("Promise 13", ALWAYS_NONE);
        TellingBench x = Scene.full();
        for (int givens : Scene.outside(0, 511)) {
            s.is("always(0, " + givens + ")", x.always(0, givens), -1);
            s.is("always(9, " + givens + ")", x.always(9, givens), -1);
        }
        s.is("always(9, 511)", x.always(9, 511), 1);
    }

    private void breaks() {
        eachRowIsFound();
        firstRowIsFound();
        noRowBreaks();
        breaksOfNoLaw();
        breaksOfNoGivens();
    }

    private void eachRowIsFound() {
        s.hold("Promise 14", BREAKS);
        TellingBench x = new TellingBench();
        for (int row = 0; row < 8; row++) {
            Scene.put(x, row, BROKEN_BY_ROW[row]);
            s.is("broken by row " + row + " alone", x.breaks(row, 0), row);
            s.is("it alone left", x.breaks(row, TermEdges.GIVENS_OF_ROW[row]), row);
        }
    }

    private void firstRowIsFound() {
        s.hold("Promise 14", BREAKS);
        int[][] givensAndRow = {{0, 0}, {1, 1}, {3, 2}, {7, 3}, {71, 4}, {199, 5}, {455, 6}, {63, 7}};
        TellingBench x = new TellingBench();
        Scene.put(x, 9, -1, -1, -1, -1, -1, -1, -1);
        for (int[] due : givensAndRow) {
            s.is("breaks(9, " + due[0] + ")", x.breaks(9, due[0]), due[1]);
        }
    }

    private void noRowBreaks() {
        s.hold("Promise 14", BREAKS_NONE);
        TellingBench x = new TellingBench();
        s.is("the law of noughts", x.breaks(0, 0), -1);
        Scene.put(x, 9, -2, -2, -2, -2, -2, -2, -2);
        s.is("all nine given: no row is left", x.breaks(9, 511), -1);
        for (int row = 0; row < 8; row++) {
            Scene.put(x, 1, BROKEN_BY_ROW[row]);
            int leavesTheNext = TermEdges.GIVENS_OF_ROW[(row + 1) % 8];
            s.is("the breaking row " + row + " not counted", x.breaks(1, leavesTheNext), -1);
        }
    }

    private void breaksOfNoLaw() {
        s.hold("Promise 14", BREAKS_NONE);
        TellingBench x = new TellingBench();
        for (int l = 0; l <= 9; l++) {
            x.law(l, 7, -1);
        }
        for (int l : Scene.outside(0, 9)) {
            s.is("breaks(" + l + ", 0)", x.breaks(l, 0), -1);
        }
        s.is("breaks(0, 0)", x.breaks(0, 0), 0);
        s.is("breaks(9, 0)", x.breaks(9, 0), 0);
    }

    private void breaksOfNoGivens() {
        s.hold("Promise 14", BREAKS_NONE);
        TellingBench x = new TellingBench();
        x.law(0, 7, -1);
        for (int givens : Scene.outside(0, 511)) {
            s.is("breaks(0, " + givens + ")", x.breaks(0, givens), -1);
        }
        s.is("breaks(0, 510)", x.breaks(0, 510), 0);
    }

    private void prove() {
        noughtsAreProved();
        firstPairByI();
        firstPairByJ();
        onlyPairsThatLeaveOneRow();
        noneBelowNought();
        latestStays();
        proveOfNoLaw();
    }

    private void sharesAre(TellingBench x, int... shares) {
        for (int k = 0; k < 9; k++) {
            s.is("share(" + k + ", 0)", x.share(k, 0), shares[k]);
        }
    }

    private void noughtsAreProved() {
        s.hold("Promise 15", PROVE);
        TellingBench x = new TellingBench();
        s.yes("the law of noughts", x.prove(0));
        sharesAre(x, 0, 0, 0, 0, 0, 0, 0, 0, 0);
        x.plain(9, 8);
        s.yes("the last law, the last plain one", x.prove(9));
        sharesAre(x, 0, 0, 0, 0, 0, 0, 0, 0, 1);
    }

    /** The doubt of A: with 3 and 4 left out a share is below 0, with 3 and 5, later with 4 and 5, none is. */
    private void firstPairByI() {
        s.hold("Promise 15", PROVE);
        TellingBench x = new TellingBench();
        x.law(0, 1, 1);
        s.yes("the doubt of A", x.prove(0));
        sharesAre(x, 1, 0, 0, 0, 1, 0, 1, 0, 0);
    }

    /** The doubt of all: with 3 and 4 left out no share is below 0, nor with 3 and 5, in another row. */
    private void firstPairByJ() {
        s.hold("Promise 15", PROVE);
        TellingBench x = new TellingBench();
        x.law(0, 7, 1);
        s.yes("the doubt of all", x.prove(0));
        sharesAre(x, 1, 1, 1, 0, 0, 1, 1, 1, 0);
    }

    /** Three times the middle part needs all of 3 to 5, once each: 6 and 7 are the first that are left out. */
    private void onlyPairsThatLeaveOneRow() {
        s.hold("Promise 15", PROVE);
        TellingBench x = new TellingBench();
        Scene.put(x, 0, 2, 2, -1, 2, -1, -1, 0);
        s.yes("plain ones 3, 4 and 5 added", x.prove(0));
        sharesAre(x, 0, 0, 0, 1, 1, 1, 0, 0, 0);
        Scene.put(x, 1, 0, 0, 1, 0, 0, 0, 0);
        s.yes("the doubt of A and B", x.prove(1));
        sharesAre(x, 1, 1, 0, 0, 0, 1, 1, 1, 0);
    }

    private void noneBelowNought() {
        s.hold("Promise 15", PROVE);
        TellingBench x = new TellingBench();
        for (int row = 0; row < 8; row++) {
            Scene.put(x, 0, BROKEN_BY_ROW[row]);
            s.no("a share is -1, law " + row, x.prove(0));
        }
        s.is("no share", x.share(0, 0), -1);
        Scene.put(x, 1, 2, 2, -2, 2, -2, -2, 2);
        s.no("less than nought by row 7", x.prove(1));
        Scene.put(x, 2, -2, -2, -2, -2, -2, -2, -2);
        s.no("less than nought by all", x.prove(2));
        Scene.put(x, 3, 2, 2, 2, 2, 2, 2, 2);
        s.yes("the greatest law", x.prove(3));
        sharesAre(x, 8, 8, 8, 0, 12, 2, 12, 0, 10);
    }

    private void latestStays() {
        s.hold("Promise 15", PROVE_FALSE);
        TellingBench x = new TellingBench();
        x.law(0, 1, 1);
        x.law(1, 1, -1);
        s.yes("prove(0)", x.prove(0));
        String latest = Scene.shares(x);
        s.no("prove(1)", x.prove(1));
        s.same("the latest stays", Scene.shares(x), latest);
        for (int row = 0; row < 8; row++) {
            Scene.put(x, 2, BROKEN_BY_ROW[row]);
            s.no("broken by row " + row, x.prove(2));
        }
        s.same("the latest stays", Scene.shares(x), latest);
        x.law(0, 1, 0);
        s.same("another law then", Scene.shares(x), latest);
        s.yes("prove(0) again", x.prove(0));
        sharesAre(x, 0, 0, 0, 0, 0, 0, 0, 0, 0);
    }

    private void proveOfNoLaw() {
        s.hold("Promise 15", PROVE_FALSE);
        TellingBench x = new TellingBench();
        for (int l : Scene.outside(0, 9)) {
            s.no("prove(" + l + ")", x.prove(l));
        }
        s.is("none was", x.share(0, 1), -1);
        x.law(0, 7, 1);
        s.yes("prove(0)", x.prove(0));
        String latest = Scene.shares(x);
        for (int l : Scene.outside(0, 9)) {
            s.no("prove(" + l + ")", x.prove(l));
        }
        s.same("the latest stays", Scene.shares(x), latest);
    }

    private void share() {
        firstAndLastShare();
        lowestTerms();
        noSuchShare();
        noSuchPartOfShare();
        noneWas();
    }

    private void firstAndLastShare() {
        s.hold("Promise 16", SHARE);
        for (int p = 0; p <= 8; p++) {
            TellingBench x = new TellingBench();
            x.plain(p, p);
            s.yes("prove(" + p + ")", x.prove(p));
            for (int k = 0; k <= 8; k++) {
                s.is("plain one " + p + ", share(" + k + ", 0)", x.share(k, 0), k == p ? 1 : 0);
                s.is("plain one " + p + ", share(" + k + ", 1)", x.share(k, 1), 1);
            }
        }
    }

    private void lowestTerms() {
        s.hold("Promise 16", SHARE);
        TellingBench x = new TellingBench();
        Scene.put(x, 0, 0, 0, 0, 0, 0, -2, 2);
        s.yes("twice the plain one 0", x.prove(0));
        s.is("2 by 1: upper", x.share(0, 0), 2);
        s.is("2 by 1: lower", x.share(0, 1), 1);
        s.is("0 by 1: upper", x.share(8, 0), 0);
        s.is("0 by 1: lower", x.share(8, 1), 1);
    }

    private void noSuchShare() {
        s.hold("Promise 16", SHARE_NONE);
        TellingBench x = Scene.full();
        for (int k : Scene.outside(0, 8)) {
            s.is("share(" + k + ", 0)", x.share(k, 0), -1);
            s.is("share(" + k + ", 1)", x.share(k, 1), -1);
        }
    }

    private void noSuchPartOfShare() {
        s.hold("Promise 16", SHARE_NONE);
        TellingBench x = Scene.full();
        for (int what : Scene.outside(0, 1)) {
            s.is("share(0, " + what + ")", x.share(0, what), -1);
            s.is("share(8, " + what + ")", x.share(8, what), -1);
        }
    }

    private void noneWas() {
        s.hold("Promise 16", SHARE_NONE);
        TellingBench x = new TellingBench();
        x.law(0, 1, -1);
        for (int turn = 0; turn < 2; turn++) {
            for (int k = 0; k <= 8; k++) {
                s.is("share(" + k + ", 0)", x.share(k, 0), -1);
                s.is("share(" + k + ", 1)", x.share(k, 1), -1);
            }
            s.no("prove(0)", x.prove(0));
        }
        s.yes("prove(1)", x.prove(1));
        s.is("share(0, 0)", x.share(0, 0), 0);
    }
}
