/** Promises 7 to 9, 13 and 14: law, plain, number, always, breaks. */
public final class LawsTest {
    private static final Due DUE = new Due("LawsTest");
    private static final int[] FAR = {Integer.MIN_VALUE, -1, 10, Integer.MAX_VALUE};

    public static void main(String[] args) {
        lawKeepsNumbers();
        lawRefuses();
        plainOnes();
        plainRefuses();
        rowsAgainstTheModel();
        alwaysRefuses();
        DUE.end();
    }

    private static void lawKeepsNumbers() {
        TellingBench x = new TellingBench();
        for (int l = 0; l < 10; l++) {
            for (int set = 1; set < 8; set++) {
                DUE.yes("law", x.law(l, set, (l + set) % 5 - 2));
            }
        }
        for (int l = 0; l < 10; l++) {
            for (int set = 1; set < 8; set++) {
                DUE.is("number " + l + " " + set, x.number(l, set), (l + set) % 5 - 2);
            }
        }
    }

    private static void lawRefuses() {
        TellingBench x = new TellingBench();
        x.law(0, 1, 2);
        for (int far : FAR) {
            DUE.no("law place", x.law(far, 1, 1));
            DUE.is("number place", x.number(far, 1), -11);
            DUE.no("law set", x.law(0, far, 1));
            DUE.is("number set", x.number(0, far), -11);
        }
        DUE.no("empty set", x.law(0, 0, 0));
        DUE.is("empty set", x.number(0, 0), -11);
        DUE.no("set 8", x.law(0, 8, 0));
        DUE.is("set 8", x.number(0, 8), -11);
        for (int k : new int[] {-3, 3, Integer.MIN_VALUE, Integer.MAX_VALUE}) {
            DUE.no("number " + k, x.law(0, 1, k));
            DUE.is("nothing done", x.number(0, 1), 2);
        }
    }

    private static void plainOnes() {
        TellingBench x = new TellingBench();
        for (int p = 0; p < 9; p++) {
            for (int set = 1; set < 8; set++) {
                x.law(p, set, 2);
            }
            DUE.yes("plain", x.plain(p, p));
            int[] due = Model.plainRow(p);
            for (int set = 1; set < 8; set++) {
                DUE.is("plain " + p + " set " + set, x.number(p, set), due[set]);
            }
            DUE.yes("changed", x.law(p, 1, 2));
        }
        DUE.yes("again", x.plain(3, 3));
        DUE.is("a plain one does not change with a law", x.number(3, 1), 1);
    }

    private static void plainRefuses() {
        TellingBench x = new TellingBench();
        x.law(0, 1, 2);
        for (int far : FAR) {
            DUE.no("place", x.plain(far, 0));
            DUE.no("plain one", x.plain(0, far));
        }
        DUE.no("plain 9", x.plain(0, 9));
        DUE.is("nothing done", x.number(0, 1), 2);
    }

    private static void rowsAgainstTheModel() {
        java.util.Random random = new java.util.Random(5);
        for (int turn = 0; turn < 400; turn++) {
            TellingBench x = new TellingBench();
            Model model = new Model();
            for (int l = 0; l < 10; l++) {
                for (int set = 1; set < 8; set++) {
                    int k = random.nextInt(5) - 2;
                    x.law(l, set, k);
                    model.law(l, set, k);
                }
            }
            for (int call = 0; call < 200; call++) {
                int l = random.nextInt(10);
                int givens = random.nextInt(4) == 0 ? random.nextInt(512) : 1 << random.nextInt(9);
                givens = call % 5 == 0 ? 0 : givens;
                DUE.is("always givens " + givens, x.always(l, givens), model.always(l, givens));
                DUE.is("breaks givens " + givens, x.breaks(l, givens), model.breaks(l, givens));
            }
        }
    }

    private static void alwaysRefuses() {
        TellingBench x = new TellingBench();
        x.law(0, 7, -1);
        DUE.is("broken", x.always(0, 0), 0);
        DUE.is("first row", x.breaks(0, 0), 0);
        DUE.is("all given", x.always(0, 511), 1);
        DUE.is("none breaks", x.breaks(0, 511), -1);
        DUE.is("the law of noughts", x.always(1, 0), 1);
        DUE.is("the law of noughts", x.breaks(1, 0), -1);
        for (int far : FAR) {
            DUE.is("place", x.always(far, 0), -1);
            DUE.is("place", x.breaks(far, 0), -1);
        }
        for (int givens : new int[] {-1, 512, Integer.MIN_VALUE, Integer.MAX_VALUE}) {
            DUE.is("givens", x.always(0, givens), -1);
            DUE.is("givens", x.breaks(0, givens), -1);
        }
    }
}
