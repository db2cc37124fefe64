/** The boundary cases of promises 1 to 6: a new object, world, weight, told, mix, tell. */
final class WorldEdges {
    private static final String WEIGHT_FALSE =
        "False, doing nothing: no such world (of which STATES were told), state, weight, or N would be above 16.";
    private static final String MADE_AS_LONG = "(It's MADE as soon and as long as N is above 0.)";
    private static final String TOLD_WORLD =
        "Of world g: 0 whether it's MADE (1), 1 to 3 STATES of A, B, C (0 if none were told), 4 N.";
    private static final String TOLD_SETTING = "10 and more: the WEIGHT of SETTING what - 10.";
    private static final String TOLD_NONE = "NONE for others, no such place.";
    private static final String MIX = "World g becomes f with h mixed: all WEIGHTS added.";
    private static final String MIX_FALSE =
        "False, doing nothing: f or h isn't MADE, they haven't as many STATES, N would be above 16.";
    private static final String TELL =
        "THING C of world g becomes one that A and B tell: its state for states a, b is digit a + 3 b (to the base of 3)"
        + " of rule (0 to 19,682), C having 3 STATES then: true.";
    private static final String TELL_FALSE = "False, doing nothing: it's not MADE, no such rule.";

    private final Sentences s;

    private WorldEdges(Sentences s) {
        this.s = s;
    }

    static void all(Sentences s) {
        WorldEdges edges = new WorldEdges(s);
        edges.newObject();
        edges.world();
        edges.weight();
        edges.told();
        edges.mix();
        edges.tell();
    }

    private void newObject() {
        noWorldIsMade();
        allLawsAreNought();
        besideAnotherObject();
    }

    private void noWorldIsMade() {
        s.hold("Promise 1", "No world is MADE;");
        TellingBench x = new TellingBench();
        for (int g = 0; g <= 3; g++) {
            s.is("told(" + g + ", 0)", x.told(g, 0), 0);
            s.is("told(" + g + ", 4)", x.told(g, 4), 0);
            s.is("sign(" + g + ", 0)", x.sign(g, 0), -2);
            s.is("compare(" + g + ", 0, " + g + ", 0)", x.compare(g, 0, g, 0), -2);
            s.is("near(" + g + ", 0)", x.near(g, 0), -10000);
            s.is("mean(" + g + ", 7)", x.mean(g, 7), -1);
            s.is("secret(" + g + ", 6)", x.secret(g, 6), -1);
            s.no("mix(" + g + ", " + g + ", 0)", x.mix(g, g, 0));
            s.no("tell(" + g + ", 0)", x.tell(g, 0));
        }
    }

    private void allLawsAreNought() {
        s.hold("Promise 1", "all LAWS are 0.");
        TellingBench x = new TellingBench();
        for (int l = 0; l <= 9; l++) {
            for (int set = 1; set <= 7; set++) {
                s.is("number(" + l + ", " + set + ")", x.number(l, set), 0);
            }
        }
    }

    private void besideAnotherObject() {
        s.hold("Promise 1", "No world is MADE; all LAWS are 0.");
        TellingBench other = Scene.full();
        String before = Scene.all(other);
        TellingBench x = new TellingBench();
        s.same("as of a new object alone", Scene.all(x), Scene.all(new TellingBench()));
        for (int g = 0; g <= 3; g++) {
            x.world(g, 3, 3, 3);
        }
        x.plain(0, 8);
        x.prove(0);
        s.same("the other object stays", Scene.all(other), before);
    }

    private void world() {
        fewestAndMostStates();
        worldAgain();
        worldInNoPlace();
        worldOfTooFewStates();
        worldOfTooManyStates();
    }

    private void fewestAndMostStates() {
        s.hold("Promise 2", "World g has so many STATES, all WEIGHTS 0; it's not MADE.");
        int[][] asked = {{0, 1, 1, 1}, {3, 3, 3, 3}, {1, 1, 3, 2}, {2, 3, 1, 1}};
        TellingBench x = new TellingBench();
        for (int[] w : asked) {
            s.yes("world in place " + w[0], x.world(w[0], w[1], w[2], w[3]));
        }
        for (int[] w : asked) {
            s.is("not made, " + w[0], x.told(w[0], 0), 0);
            for (int thing = 1; thing <= 3; thing++) {
                s.is("states of thing " + (thing - 1) + " in place " + w[0], x.told(w[0], thing), w[thing]);
            }
        }
    }

    private void worldAgain() {
        s.hold("Promise 2", "World g has so many STATES, all WEIGHTS 0; it's not MADE.");
        TellingBench x = new TellingBench();
        Scene.make(x, 1, 2, 2, 2, 2, 2, 2, 2, 2, 2, 2, 2);
        Scene.make(x, 2, 1, 1, 1, 16);
        s.yes("a full world, again", x.world(1, 2, 2, 2));
        s.is("not made", x.told(1, 0), 0);
        s.is("N", x.told(1, 4), 0);
        for (int setting : new int[] {0, 1, 3, 4, 9, 10, 12, 13}) {
            s.is("told(1, " + (10 + setting) + ")", x.told(1, 10 + setting), 0);
        }
        s.is("another world's N", x.told(2, 4), 16);
        s.yes("it takes 16 again", x.weight(1, 1, 1, 1, 16));
        s.yes("of other states", x.world(1, 3, 3, 3));
        s.is("no weight comes back", x.told(1, 23), 0);
    }

    /** Asks a full bench for what it must refuse, and that it is as before. */
    private void refuses(int... gabc) {
        TellingBench x = Scene.full();
        String before = Scene.all(x);
        for (int i = 0; i + 3 < gabc.length; i += 4) {
            String call = "world(" + gabc[i] + ", " + gabc[i + 1] + ", " + gabc[i + 2] + ", " + gabc[i + 3] + ")";
            s.no(call, x.world(gabc[i], gabc[i + 1], gabc[i + 2], gabc[i + 3]));
        }
        s.same("nothing is done", Scene.all(x), before);
    }

    private void worldInNoPlace() {
        s.hold("Promise 2", "False, doing nothing: not as told.");
        for (int g : Scene.outside(0, 3)) {
            refuses(g, 1, 1, 1);
        }
    }

    private void worldOfTooFewStates() {
        s.hold("Promise 2", "False, doing nothing: not as told.");
        for (int few : new int[] {0, -1, Integer.MIN_VALUE}) {
            for (int g = 0; g <= 3; g++) {
                refuses(g, few, 2, 2, g, 2, few, 2, g, 2, 2, few, g, few, few, few);
            }
        }
    }

    private void worldOfTooManyStates() {
        s.hold("Promise 2", "False, doing nothing: not as told.");
        for (int many : new int[] {4, 257, 65537, Integer.MAX_VALUE}) {
            for (int g = 0; g <= 3; g++) {
                refuses(g, many, 2, 2, g, 2, many, 2, g, 2, 2, many, g, many, many, many);
            }
        }
    }

    private void weight() {
        leastAndGreatestWeight();
        weightInsteadOfAnother();
        weightInNoPlace();
        weightInUntoldWorld();
        weightOfTooLowState();
        weightOfTooHighState();
        noSuchWeight();
        weightAboveSixteenInAll();
        madeAsSoon();
        madeAsLong();
    }

    private void leastAndGreatestWeight() {
        s.hold("Promise 3", "A SETTING's WEIGHT (0 to 16): true.");
        TellingBench x = new TellingBench();
        x.world(0, 1, 1, 1);
        for (int w = 0; w <= 16; w++) {
            s.yes("weight(0, 0, 0, 0, " + w + ")", x.weight(0, 0, 0, 0, w));
            s.is("told(0, 10)", x.told(0, 10), w);
            s.is("told(0, 4)", x.told(0, 4), w);
        }
        s.yes("back to 0", x.weight(0, 0, 0, 0, 0));
        s.is("told(0, 10)", x.told(0, 10), 0);
    }

    private void weightInsteadOfAnother() {
        s.hold("Promise 3", "A SETTING's WEIGHT (0 to 16): true.");
        TellingBench x = new TellingBench();
        Scene.make(x, 0, 2, 1, 1, 10, 6);
        s.yes("10 again, with 16 in all", x.weight(0, 0, 0, 0, 10));
        s.is("N", x.told(0, 4), 16);
        s.yes("9 for 10", x.weight(0, 0, 0, 0, 9));
        s.yes("7 for 6", x.weight(0, 1, 0, 0, 7));
        s.is("N", x.told(0, 4), 16);
        s.yes("nought for a setting of weight 0 of a full world", x.world(1, 2, 1, 1) && x.weight(1, 0, 0, 0, 16));
        s.yes("weight(1, 1, 0, 0, 0)", x.weight(1, 1, 0, 0, 0));
    }

    /** Asks a full bench to put weights that it must refuse, and that it is as before. */
    private void refusesWeight(int g, int a, int b, int c, int w) {
        TellingBench x = Scene.full();
        String before = Scene.all(x);
        s.no("weight(" + g + ", " + a + ", " + b + ", " + c + ", " + w + ")", x.weight(g, a, b, c, w));
        s.same("nothing is done", Scene.all(x), before);
    }

    private void weightInNoPlace() {
        s.hold("Promise 3", WEIGHT_FALSE);
        for (int g : Scene.outside(0, 3)) {
            refusesWeight(g, 0, 0, 0, 1);
            refusesWeight(g, 0, 0, 0, 0);
        }
    }

    private void weightInUntoldWorld() {
        s.hold("Promise 3", WEIGHT_FALSE);
        refusesWeight(3, 0, 0, 0, 1);
        refusesWeight(3, 0, 0, 0, 0);
        TellingBench x = new TellingBench();
        s.no("after a world that was refused", x.world(3, 1, 1, 0) || x.weight(3, 0, 0, 0, 1));
        s.yes("after one that was taken", x.world(3, 1, 1, 1) && x.weight(3, 0, 0, 0, 1));
    }

    private void weightOfTooLowState() {
        s.hold("Promise 3", WEIGHT_FALSE);
        for (int low : new int[] {-1, -3, -256, Integer.MIN_VALUE}) {
            refusesWeight(0, low, 1, 1, 1);
            refusesWeight(0, 1, low, 1, 1);
            refusesWeight(0, 1, 1, low, 1);
        }
    }

    private void weightOfTooHighState() {
        s.hold("Promise 3", WEIGHT_FALSE);
        for (int high : new int[] {2, 3, 256, 65536, Integer.MAX_VALUE}) {
            refusesWeight(0, high, 0, 0, 1);
            refusesWeight(0, 0, high, 0, 1);
            refusesWeight(0, 0, 0, high, 1);
        }
        refusesWeight(1, 3, 0, 0, 1);
        refusesWeight(1, 0, 1, 0, 1);
        refusesWeight(1, 0, 0, 2, 1);
    }

    private void noSuchWeight() {
        s.hold("Promise 3", WEIGHT_FALSE);
        for (int w : Scene.outside(0, 16)) {
            refusesWeight(0, 0, 0, 0, w);
            refusesWeight(0, 1, 0, 0, w);
        }
    }

    private void weightAboveSixteenInAll() {
        s.hold("Promise 3", WEIGHT_FALSE);
        TellingBench x = new TellingBench();
        Scene.make(x, 0, 3, 1, 1, 5, 6);
        s.no("17 in all, a new setting's", x.weight(0, 2, 0, 0, 6));
        s.no("17 in all, one put anew", x.weight(0, 1, 0, 0, 12));
        s.no("27 in all", x.weight(0, 2, 0, 0, 16));
        s.is("the first stays", x.told(0, 10), 5);
        s.is("the second stays", x.told(0, 11), 6);
        s.is("the third stays", x.told(0, 12), 0);
        s.is("N stays", x.told(0, 4), 11);
        s.yes("16 in all, one put anew", x.weight(0, 1, 0, 0, 11));
        refusesWeight(2, 0, 1, 0, 1);
        refusesWeight(0, 1, 0, 0, 7);
    }

    private void madeAsSoon() {
        s.hold("Promise 3", MADE_AS_LONG);
        TellingBench x = new TellingBench();
        x.world(0, 3, 3, 3);
        x.weight(0, 0, 0, 0, 0);
        s.is("a weight of 0", x.told(0, 0), 0);
        s.is("not made", x.sign(0, 0), -2);
        x.weight(0, 2, 2, 2, 1);
        s.is("a weight of 1", x.told(0, 0), 1);
        s.is("made", x.sign(0, 0), 0);
    }

    private void madeAsLong() {
        s.hold("Promise 3", MADE_AS_LONG);
        TellingBench x = new TellingBench();
        Scene.make(x, 0, 2, 1, 1, 1, 1);
        x.weight(0, 0, 0, 0, 0);
        s.is("1 is left", x.told(0, 0), 1);
        x.weight(0, 1, 0, 0, 0);
        s.is("none is left", x.told(0, 0), 0);
        s.is("its mean", x.mean(0, 1), -1);
        s.is("its states stay", x.told(0, 1), 2);
        x.weight(0, 0, 0, 0, 16);
        s.is("made again", x.told(0, 0), 1);
    }

    private void told() {
        toldWhetherMade();
        toldStates();
        toldTotal();
        toldFirstAndLastSetting();
        toldOthers();
        toldSettingsThatItHasNot();
        toldOfNoPlace();
    }

    private void toldWhetherMade() {
        s.hold("Promise 4", TOLD_WORLD);
        TellingBench x = new TellingBench();
        s.is("untold", x.told(0, 0), 0);
        x.world(0, 1, 1, 1);
        s.is("told", x.told(0, 0), 0);
        x.weight(0, 0, 0, 0, 16);
        s.is("made", x.told(0, 0), 1);
    }

    private void toldStates() {
        s.hold("Promise 4", TOLD_WORLD);
        TellingBench x = new TellingBench();
        x.world(1, 1, 2, 3);
        x.world(2, 0, 1, 1);
        for (int thing = 1; thing <= 3; thing++) {
            s.is("told(0, " + thing + "), none told", x.told(0, thing), 0);
            s.is("told(1, " + thing + ")", x.told(1, thing), thing);
            s.is("told(2, " + thing + "), refused", x.told(2, thing), 0);
        }
    }

    private void toldTotal() {
        s.hold("Promise 4", TOLD_WORLD);
        TellingBench x = new TellingBench();
        s.is("N of an untold world", x.told(0, 4), 0);
        x.world(0, 3, 3, 3);
        s.is("N of an empty world", x.told(0, 4), 0);
        for (int i = 0; i < 16; i++) {
            x.weight(0, i % 3, i / 3 % 3, i / 9, 1);
            s.is("N", x.told(0, 4), i + 1);
        }
    }

    private void toldFirstAndLastSetting() {
        s.hold("Promise 4", TOLD_SETTING);
        TellingBench x = new TellingBench();
        x.world(0, 3, 3, 3);
        x.weight(0, 0, 0, 0, 3);
        x.weight(0, 2, 2, 2, 4);
        s.is("told(0, 10)", x.told(0, 10), 3);
        s.is("told(0, 36)", x.told(0, 36), 4);
        for (int what = 11; what <= 35; what++) {
            s.is("told(0, " + what + ")", x.told(0, what), 0);
        }
    }

    private void toldOthers() {
        s.hold("Promise 4", TOLD_NONE);
        TellingBench x = new TellingBench();
        Scene.make(x, 0, 3, 3, 3, 1, 1, 1, 1, 1, 1, 1, 1, 1, 1, 1, 1, 1, 1, 1, 1);
        for (int what : new int[] {5, 6, 7, 8, 9}) {
            s.is("told(0, " + what + ")", x.told(0, what), -1);
        }
        for (int what : Scene.outside(0, 36)) {
            s.is("told(0, " + what + ")", x.told(0, what), -1);
        }
    }

    private void toldSettingsThatItHasNot() {
        s.hold("Promise 4", TOLD_NONE);
        TellingBench untold = new TellingBench();
        for (int what = 10; what <= 36; what++) {
            s.is("untold, told(0, " + what + ")", untold.told(0, what), -1);
        }
        for (int kind = 0; kind < 27; kind++) {
            TellingBench x = new TellingBench();
            int a = kind % 3 + 1;
            int b = kind / 3 % 3 + 1;
            int c = kind / 9 + 1;
            Scene.make(x, 1, a, b, c, 16);
            for (int setting = 0; setting < 27; setting++) {
                boolean has = setting % 3 < a && setting / 3 % 3 < b && setting / 9 < c;
                int due = !has ? -1 : setting == 0 ? 16 : 0;
                s.is("world(1, " + a + ", " + b + ", " + c + "), told(1, " + (10 + setting) + ")", x.told(1, 10 + setting), due);
            }
        }
    }

    private void toldOfNoPlace() {
        s.hold("Promise 4", TOLD_NONE);
        TellingBench x = Scene.full();
        for (int g : Scene.outside(0, 3)) {
            for (int what : new int[] {0, 1, 2, 3, 4, 5, 10, 36, -1}) {
                s.is("told(" + g + ", " + what + ")", x.told(g, what), -1);
            }
        }
    }

    private void mix() {
        mixIntoUntoldWorld();
        mixOverAnotherWorld();
        mixOverItself();
        mixNotMade();
        mixInNoPlace();
        mixOfOtherStates();
        mixUpToSixteen();
    }

    private void mixIntoUntoldWorld() {
        s.hold("Promise 5", MIX);
        TellingBench x = new TellingBench();
        Scene.make(x, 0, 1, 2, 3, 1, 0, 2, 0, 0, 3);
        Scene.make(x, 3, 1, 2, 3, 1, 4, 0, 0, 0, 5);
        s.yes("mix(0, 3, 1)", x.mix(0, 3, 1));
        int[] due = {2, 4, 2, 0, 0, 8};
        for (int i = 0; i < 6; i++) {
            s.is("weight " + i, x.told(1, 10 + 3 * (i % 2) + 9 * (i / 2)), due[i]);
        }
        s.is("N", x.told(1, 4), 16);
        s.is("made", x.told(1, 0), 1);
        for (int thing = 1; thing <= 3; thing++) {
            s.is("states of thing " + (thing - 1), x.told(1, thing), thing);
        }
        s.is("f stays", x.told(0, 4), 6);
        s.is("h stays", x.told(3, 4), 10);
        s.yes("weight(1, 0, 0, 0, 0)", x.weight(1, 0, 0, 0, 0));
        s.is("f has its own weights", x.told(0, 10), 1);
        s.is("h has its own weights", x.told(3, 10), 1);
        s.yes("world(0, 3, 3, 3)", x.world(0, 3, 3, 3));
        s.is("g has its own states", x.told(1, 1), 1);
    }

    private void mixOverAnotherWorld() {
        s.hold("Promise 5", MIX);
        TellingBench x = new TellingBench();
        Scene.make(x, 0, 1, 1, 1, 1);
        Scene.make(x, 1, 3, 3, 3, 0, 1, 0, 0, 15);
        s.yes("mix(0, 0, 1)", x.mix(0, 0, 1));
        s.is("N", x.told(1, 4), 2);
        s.is("its weight", x.told(1, 10), 2);
        s.is("states of A", x.told(1, 1), 1);
        s.is("a setting that was", x.told(1, 11), -1);
        s.yes("as many states again", x.world(1, 3, 3, 3));
        s.is("no weight comes back", x.told(1, 11), 0);
    }

    private void mixOverItself() {
        s.hold("Promise 5", MIX);
        int[][] asked = {{0, 1, 0, 8, 3, 5}, {0, 1, 1, 8, 3, 5}, {0, 0, 0, 6, 2, 4}, {1, 1, 1, 10, 4, 6}};
        for (int[] fhg : asked) {
            TellingBench x = new TellingBench();
            Scene.make(x, 0, 2, 1, 1, 1, 2);
            Scene.make(x, 1, 2, 1, 1, 2, 3);
            s.yes("mix(" + fhg[0] + ", " + fhg[1] + ", " + fhg[2] + ")", x.mix(fhg[0], fhg[1], fhg[2]));
            s.is("N", x.told(fhg[2], 4), fhg[3]);
            s.is("first weight", x.told(fhg[2], 10), fhg[4]);
            s.is("second weight", x.told(fhg[2], 11), fhg[5]);
        }
    }

    /** Asks a full bench, with an empty world in place 3, for mixes that it must refuse. */
    private void refusesMix(int... fhg) {
        TellingBench x = Scene.full();
        x.world(3, 2, 2, 2);
        String before = Scene.all(x);
        for (int i = 0; i + 2 < fhg.length; i += 3) {
            s.no("mix(" + fhg[i] + ", " + fhg[i + 1] + ", " + fhg[i + 2] + ")", x.mix(fhg[i], fhg[i + 1], fhg[i + 2]));
        }
        s.same("nothing is done", Scene.all(x), before);
    }

    private void mixNotMade() {
        s.hold("Promise 5", MIX_FALSE);
        refusesMix(0, 3, 1, 3, 0, 1, 3, 3, 0, 0, 3, 0, 3, 0, 3);
        TellingBench x = new TellingBench();
        s.no("both untold", x.mix(0, 1, 2));
        Scene.make(x, 0, 1, 1, 1, 1);
        s.no("f is untold", x.mix(1, 0, 2));
        s.no("h is untold", x.mix(0, 1, 2));
        Scene.make(x, 1, 1, 1, 1, 1);
        x.weight(1, 0, 0, 0, 0);
        s.no("h is made no more", x.mix(0, 1, 2));
        s.is("g stays untold", x.told(2, 1), 0);
    }

    private void mixInNoPlace() {
        s.hold("Promise 5", MIX_FALSE);
        for (int place : Scene.outside(0, 3)) {
            refusesMix(place, 0, 1, 0, place, 1, place, place, 0);
        }
        for (int place : Scene.outside(0, 3)) {
            TellingBench x = new TellingBench();
            Scene.make(x, 0, 1, 1, 1, 1);
            s.no("mix(0, 0, " + place + ")", x.mix(0, 0, place));
            s.is("N stays", x.told(0, 4), 1);
        }
    }

    private void mixOfOtherStates() {
        s.hold("Promise 5", MIX_FALSE);
        int[][] states = {{1, 2, 3}, {2, 2, 3}, {1, 1, 3}, {1, 2, 2}, {3, 2, 1}, {2, 1, 3}, {1, 3, 2}};
        for (int i = 1; i < states.length; i++) {
            TellingBench x = new TellingBench();
            Scene.make(x, 0, 1, 2, 3, 1);
            Scene.make(x, 1, states[i][0], states[i][1], states[i][2], 1);
            String before = Scene.worlds(x);
            s.no("mix(0, 1, 2)", x.mix(0, 1, 2));
            s.no("mix(1, 0, 0)", x.mix(1, 0, 0));
            s.same("nothing is done", Scene.worlds(x), before);
        }
    }

    private void mixUpToSixteen() {
        s.hold("Promise 5", MIX_FALSE);
        TellingBench x = new TellingBench();
        Scene.make(x, 0, 2, 1, 1, 16);
        Scene.make(x, 1, 2, 1, 1, 0, 1);
        Scene.make(x, 2, 2, 1, 1, 7, 8);
        String before = Scene.worlds(x);
        s.no("16 and 1", x.mix(0, 1, 3));
        s.no("1 and 16", x.mix(1, 0, 1));
        s.no("16 and 16", x.mix(0, 0, 0));
        s.no("15 and 15", x.mix(2, 2, 3));
        s.same("nothing is done", Scene.worlds(x), before);
        s.yes("15 and 1", x.mix(2, 1, 3));
        s.is("N", x.told(3, 4), 16);
        s.no("and 1 more", x.mix(3, 1, 3));
        s.is("N stays", x.told(3, 4), 16);
    }

    private void tell() {
        leastAndGreatestRule();
        lowestAndHighestDigit();
        weightsOfOneStateAdded();
        threeStatesThen();
        tellNotMade();
        noSuchRule();
    }

    private void leastAndGreatestRule() {
        s.hold("Promise 6", TELL);
        for (int state = 0; state <= 2; state++) {
            int rule = 9841 * state;
            TellingBench x = new TellingBench();
            Scene.make(x, 2, 3, 3, 1, 1, 1, 1, 1, 1, 1, 1, 1, 8);
            s.yes("tell(2, " + rule + ")", x.tell(2, rule));
            for (int setting = 0; setting < 27; setting++) {
                int due = setting / 9 != state ? 0 : setting % 9 == 8 ? 8 : 1;
                s.is("rule " + rule + ", told(2, " + (10 + setting) + ")", x.told(2, 10 + setting), due);
            }
        }
    }

    private void lowestAndHighestDigit() {
        s.hold("Promise 6", TELL);
        int power = 1;
        for (int digit = 0; digit < 9; digit++) {
            for (int state = 1; state <= 2; state++) {
                TellingBench x = new TellingBench();
                Scene.make(x, 0, 3, 3, 1, 1, 1, 1, 1, 1, 1, 1, 1, 1);
                x.tell(0, state * power);
                for (int i = 0; i < 9; i++) {
                    int c = i == digit ? state : 0;
                    s.is("rule " + state * power + ", a + 3 b is " + i, x.told(0, 10 + i + 9 * c), 1);
                }
                s.is("N", x.told(0, 4), 9);
            }
            power *= 3;
        }
    }

    private void weightsOfOneStateAdded() {
        s.hold("Promise 6", TELL);
        TellingBench x = new TellingBench();
        Scene.make(x, 0, 2, 1, 3, 1, 2, 3, 4, 5, 1);
        s.yes("tell(0, 2)", x.tell(0, 2));
        s.is("a 0: 1, 3 and 5 in state 2", x.told(0, 28), 9);
        s.is("a 1: 2, 4 and 1 in state 0", x.told(0, 11), 7);
        s.is("a 0, state 0", x.told(0, 10), 0);
        s.is("a 0, state 1", x.told(0, 19), 0);
        s.is("N", x.told(0, 4), 16);
        s.yes("digits of states that A and B don't have tell nothing", x.tell(0, 19682 - 8));
        s.is("a 0, state 0", x.told(0, 10), 9);
        s.is("a 1, state 0", x.told(0, 11), 7);
    }

    private void threeStatesThen() {
        s.hold("Promise 6", TELL);
        TellingBench x = new TellingBench();
        Scene.make(x, 0, 2, 1, 1, 1, 1);
        s.no("no state 2 of C yet", x.weight(0, 0, 0, 2, 1));
        x.tell(0, 0);
        s.is("states of C", x.told(0, 3), 3);
        s.is("states of A", x.told(0, 1), 2);
        s.is("states of B", x.told(0, 2), 1);
        s.yes("state 2 of C", x.weight(0, 0, 0, 2, 1));
        s.no("no state 3 of C", x.weight(0, 0, 0, 3, 1));
        s.no("no state 2 of A", x.weight(0, 2, 0, 0, 1));
        Scene.make(x, 1, 1, 1, 3, 1);
        s.yes("C has 3 already", x.tell(1, 1));
        s.is("states of C", x.told(1, 3), 3);
    }

    /** Asks a full bench for a telling that it must refuse, and that it is as before. */
    private void refusesTell(int g, int rule) {
        TellingBench x = Scene.full();
        String before = Scene.all(x);
        s.no("tell(" + g + ", " + rule + ")", x.tell(g, rule));
        s.same("nothing is done", Scene.all(x), before);
    }

    private void tellNotMade() {
        s.hold("Promise 6", TELL_FALSE);
        refusesTell(3, 0);
        refusesTell(3, 19682);
        for (int g : Scene.outside(0, 3)) {
            refusesTell(g, 1);
        }
        TellingBench x = new TellingBench();
        x.world(0, 2, 2, 2);
        s.no("states told, no weight", x.tell(0, 0));
        s.is("states of C", x.told(0, 3), 2);
    }

    private void noSuchRule() {
        s.hold("Promise 6", TELL_FALSE);
        for (int rule : Scene.outside(0, 19682)) {
            refusesTell(0, rule);
            refusesTell(2, rule);
        }
    }
}
