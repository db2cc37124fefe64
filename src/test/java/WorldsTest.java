/** Promises 1 to 6: a new object, world, weight, told, mix, tell. */
public final class WorldsTest {
    private static final Due DUE = new Due("WorldsTest");

    public static void main(String[] args) {
        newObject();
        worldTakesStates();
        worldBeginsAgain();
        weightKeepsWithinSixteen();
        weightRefuses();
        madeAsLongAsWeighed();
        toldAnswersNoneForOthers();
        toldOfSettingsThatTheWorldHas();
        toldOfSettingsThatChange();
        mixAdds();
        mixRefuses();
        mixOntoItself();
        tellByDigits();
        tellRefuses();
        DUE.end();
    }

    private static void newObject() {
        TellingBench x = new TellingBench();
        for (int g = 0; g < 4; g++) {
            for (int what = 0; what <= 4; what++) {
                DUE.is("new told " + g + " " + what, x.told(g, what), 0);
            }
            for (int what = 10; what <= 36; what++) {
                DUE.is("no setting " + g + " " + what, x.told(g, what), -1);
            }
            DUE.is("new sign", x.sign(g, 0), -2);
        }
        for (int l = 0; l < 10; l++) {
            for (int set = 1; set < 8; set++) {
                DUE.is("new number " + l + " " + set, x.number(l, set), 0);
            }
        }
        DUE.is("new share", x.share(0, 0), -1);
        DUE.is("NONE", TellingBench.NONE, -1);
    }

    private static void worldTakesStates() {
        TellingBench x = new TellingBench();
        for (int g = -2; g <= 5; g++) {
            for (int a = 0; a <= 4; a++) {
                x = new TellingBench();
                for (int b = 0; b <= 4; b++) {
                    for (int c = 0; c <= 4; c++) {
                        boolean good = g >= 0 && g <= 3 && a >= 1 && a <= 3 && b >= 1 && b <= 3 && c >= 1 && c <= 3;
                        DUE.is("world " + g + a + b + c, x.world(g, a, b, c), good);
                        if (good) {
                            DUE.is("states", x.told(g, 1) + 10 * x.told(g, 2) + 100 * x.told(g, 3), a + 10 * b + 100 * c);
                        }
                    }
                }
            }
        }
        DUE.no("world far", x.world(Integer.MAX_VALUE, 1, 1, 1));
        DUE.no("world low", x.world(Integer.MIN_VALUE, 1, 1, 1));
        DUE.no("states far", x.world(0, Integer.MAX_VALUE, Integer.MIN_VALUE, 1));
    }

    private static void worldBeginsAgain() {
        TellingBench x = new TellingBench();
        x.world(1, 2, 3, 1);
        DUE.yes("weight", x.weight(1, 1, 2, 0, 5));
        DUE.no("wrong world", x.world(1, 2, 2, 4));
        DUE.is("stays", x.told(1, 17), 5);
        DUE.is("stays made", x.told(1, 0), 1);
        DUE.yes("again", x.world(1, 2, 3, 1));
        DUE.is("weight gone", x.told(1, 17), 0);
        DUE.is("not made", x.told(1, 0), 0);
        DUE.is("N gone", x.told(1, 4), 0);
        DUE.is("others untouched", x.told(0, 1), 0);
    }

    private static void weightKeepsWithinSixteen() {
        TellingBench x = new TellingBench();
        x.world(0, 2, 1, 1);
        DUE.yes("16", x.weight(0, 0, 0, 0, 16));
        DUE.no("17 in all", x.weight(0, 1, 0, 0, 1));
        DUE.yes("nought fits", x.weight(0, 1, 0, 0, 0));
        DUE.yes("16 again", x.weight(0, 0, 0, 0, 16));
        DUE.yes("15", x.weight(0, 0, 0, 0, 15));
        DUE.yes("1 fits now", x.weight(0, 1, 0, 0, 1));
        DUE.no("2 doesn't", x.weight(0, 1, 0, 0, 2));
        DUE.is("N", x.told(0, 4), 16);
        DUE.is("kept", x.told(0, 11), 1);
    }

    private static void weightRefuses() {
        TellingBench x = new TellingBench();
        DUE.no("no states told", x.weight(2, 0, 0, 0, 0));
        x.world(2, 1, 2, 3);
        int[][] wrong = {
            {-1, 0, 0, 0, 1}, {4, 0, 0, 0, 1}, {2, 1, 0, 0, 1}, {2, 0, 2, 0, 1}, {2, 0, 0, 3, 1},
            {2, -1, 0, 0, 1}, {2, 0, -1, 0, 1}, {2, 0, 0, -1, 1}, {2, 0, 0, 0, -1}, {2, 0, 0, 0, 17},
            {2, 0, 0, 0, Integer.MAX_VALUE}, {2, 0, 0, 0, Integer.MIN_VALUE},
            {2, Integer.MAX_VALUE, 0, 0, 1}, {2, Integer.MIN_VALUE, 0, 0, 1}, {Integer.MIN_VALUE, 0, 0, 0, 1},
        };
        for (int[] w : wrong) {
            DUE.no("weight " + java.util.Arrays.toString(w), x.weight(w[0], w[1], w[2], w[3], w[4]));
            DUE.is("nothing done", x.told(2, 4), 0);
        }
        DUE.yes("last state", x.weight(2, 0, 1, 2, 3));
        DUE.is("its number is 21", x.told(2, 10 + 21), 3);
    }

    private static void madeAsLongAsWeighed() {
        TellingBench x = new TellingBench();
        x.world(3, 3, 3, 3);
        DUE.is("not yet", x.told(3, 0), 0);
        x.weight(3, 2, 2, 2, 1);
        DUE.is("made", x.told(3, 0), 1);
        DUE.is("setting 26", x.told(3, 36), 1);
        x.weight(3, 2, 2, 2, 0);
        DUE.is("no more", x.told(3, 0), 0);
        DUE.is("states stay", x.told(3, 3), 3);
        DUE.is("sign then", x.sign(3, 0), -2);
    }

    private static void toldAnswersNoneForOthers() {
        TellingBench x = new TellingBench();
        x.world(0, 3, 3, 3);
        int[] others = {-1, 5, 6, 7, 8, 9, 37, 38, 1000, Integer.MAX_VALUE, Integer.MIN_VALUE};
        for (int what : others) {
            DUE.is("told " + what, x.told(0, what), -1);
        }
        int[] places = {-1, 4, Integer.MAX_VALUE, Integer.MIN_VALUE};
        for (int g : places) {
            DUE.is("told in " + g, x.told(g, 0), -1);
            DUE.is("told in " + g, x.told(g, 10), -1);
        }
    }

    private static void toldOfSettingsThatTheWorldHas() {
        TellingBench x = new TellingBench();
        for (int kind = 0; kind < 27; kind++) {
            x = kind % 8 == 0 ? new TellingBench() : x;
            int a = kind % 3 + 1;
            int b = kind / 3 % 3 + 1;
            int c = kind / 9 + 1;
            x.world(1, a, b, c);
            hasSettingsOf(x, a, b, c, 0);
            x.weight(1, 0, 0, 0, 7);
            hasSettingsOf(x, a, b, c, 7);
            DUE.is("other world " + kind, x.told(2, 10), -1);
        }
    }

    private static void hasSettingsOf(TellingBench x, int a, int b, int c, int first) {
        for (int i = 0; i < 27; i++) {
            boolean has = i % 3 < a && i / 3 % 3 < b && i / 9 < c;
            int want = !has ? -1 : i == 0 ? first : 0;
            DUE.is("setting " + i + " of " + a + b + c, x.told(1, 10 + i), want);
        }
    }

    private static void toldOfSettingsThatChange() {
        TellingBench x = new TellingBench();
        x.world(0, 1, 1, 1);
        DUE.is("A has one state", x.told(0, 11), -1);
        DUE.no("wrong world", x.world(0, 2, 1, 4));
        DUE.is("A still has one", x.told(0, 11), -1);
        x.weight(0, 0, 0, 0, 2);
        DUE.yes("mix", x.mix(0, 0, 3));
        DUE.is("mixed", x.told(3, 10), 4);
        DUE.is("mixed has as many states", x.told(3, 11), -1);
        DUE.is("C has one state", x.told(0, 28), -1);
        DUE.yes("tell", x.tell(0, 1));
        DUE.is("C has three states", x.told(0, 28), 0);
        DUE.is("and is told", x.told(0, 19), 2);
        DUE.is("A and B have one", x.told(0, 20), -1);
        x.world(0, 2, 1, 1);
        DUE.is("A has two states", x.told(0, 11), 0);
        DUE.is("C has one again", x.told(0, 28), -1);
    }

    private static void mixAdds() {
        TellingBench x = twoWorlds();
        DUE.yes("mix", x.mix(0, 1, 2));
        DUE.is("N", x.told(2, 4), 16);
        DUE.is("both", x.told(2, 10), 5);
        DUE.is("first's", x.told(2, 11), 6);
        DUE.is("second's", x.told(2, 13), 5);
        DUE.is("states", x.told(2, 1) * 100 + x.told(2, 2) * 10 + x.told(2, 3), 221);
        DUE.is("first stays", x.told(0, 4), 8);
        DUE.is("second stays", x.told(1, 4), 8);
    }

    private static void mixRefuses() {
        TellingBench x = twoWorlds();
        DUE.no("not made", x.mix(0, 3, 2));
        DUE.no("not made", x.mix(3, 0, 2));
        DUE.no("no such place", x.mix(0, 1, 4));
        DUE.no("no such place", x.mix(0, 1, -1));
        DUE.no("no such place", x.mix(4, 1, 2));
        DUE.no("no such place", x.mix(0, -1, 2));
        for (int[] states : new int[][] {{3, 2, 1}, {2, 3, 1}, {2, 2, 2}}) {
            x.world(3, states[0], states[1], states[2]);
            x.weight(3, 0, 0, 0, 1);
            DUE.no("other states", x.mix(0, 3, 2));
            DUE.no("other states", x.mix(3, 0, 2));
        }
        x.world(3, 2, 2, 1);
        x.weight(3, 0, 0, 0, 9);
        DUE.no("17 in all", x.mix(0, 3, 2));
        DUE.is("nothing done", x.told(2, 1), 0);
        x.weight(3, 0, 0, 0, 8);
        DUE.yes("16 in all", x.mix(0, 3, 2));
    }

    private static void mixOntoItself() {
        TellingBench x = twoWorlds();
        DUE.yes("onto the first", x.mix(0, 1, 0));
        DUE.is("N", x.told(0, 4), 16);
        x = twoWorlds();
        DUE.yes("onto the second", x.mix(0, 1, 1));
        DUE.is("N", x.told(1, 4), 16);
        DUE.is("both", x.told(1, 10), 5);
        x = twoWorlds();
        DUE.yes("with itself onto itself", x.mix(0, 0, 0));
        DUE.is("N", x.told(0, 4), 16);
        DUE.is("twice", x.told(0, 11), 12);
        DUE.no("no more room", x.mix(0, 0, 0));
        DUE.is("N stays", x.told(0, 4), 16);
    }

    private static TellingBench twoWorlds() {
        TellingBench x = new TellingBench();
        x.world(0, 2, 2, 1);
        x.weight(0, 0, 0, 0, 2);
        x.weight(0, 1, 0, 0, 6);
        x.world(1, 2, 2, 1);
        x.weight(1, 0, 0, 0, 3);
        x.weight(1, 0, 1, 0, 5);
        return x;
    }

    private static void tellByDigits() {
        int[] rules = {0, 1, 2, 3, 30, 6561, 12345, 19682};
        for (int rule : rules) {
            TellingBench x = new TellingBench();
            x.world(0, 3, 3, 2);
            for (int i = 0; i < 9; i++) {
                x.weight(0, i % 3, i / 3, i % 2, 1);
            }
            x.weight(0, 0, 0, 1, 5);
            DUE.yes("tell " + rule, x.tell(0, rule));
            String digits = Integer.toString(rule, 3);
            while (digits.length() < 9) {
                digits = "0" + digits;
            }
            for (int i = 0; i < 27; i++) {
                int told = digits.charAt(8 - i % 9) - '0';
                int want = told != i / 9 ? 0 : i % 9 == 0 ? 6 : 1;
                DUE.is("rule " + rule + " setting " + i, x.told(0, 10 + i), want);
            }
            DUE.is("states of C", x.told(0, 3), 3);
            DUE.is("states of A", x.told(0, 1), 3);
            DUE.is("N", x.told(0, 4), 14);
            x.plain(0, 2);
            DUE.is("C is left no doubt", x.sign(0, 0), 0);
        }
    }

    private static void tellRefuses() {
        TellingBench x = new TellingBench();
        DUE.no("no states", x.tell(0, 0));
        x.world(0, 2, 2, 2);
        DUE.no("not made", x.tell(0, 0));
        DUE.is("nothing done", x.told(0, 3), 2);
        x.weight(0, 1, 1, 1, 1);
        DUE.no("rule", x.tell(0, -1));
        DUE.no("rule", x.tell(0, 19683));
        DUE.no("rule", x.tell(0, Integer.MIN_VALUE));
        DUE.no("place", x.tell(4, 0));
        DUE.no("place", x.tell(-1, 0));
        DUE.is("nothing done", x.told(0, 3), 2);
        DUE.is("nothing done", x.told(0, 10 + 13), 1);
        DUE.yes("least rule", x.tell(0, 0));
        DUE.is("moved", x.told(0, 10 + 4), 1);
        DUE.yes("greatest rule", x.tell(0, 19682));
        DUE.is("moved", x.told(0, 10 + 22), 1);
        DUE.yes("a new state of C", x.weight(0, 0, 0, 2, 2));
    }
}
