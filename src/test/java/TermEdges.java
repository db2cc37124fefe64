/** The boundary cases that the terms name, and what the document says of an object's calls. */
final class TermEdges {
    /** Givens that leave just one of the rows 0 to 7: all plain ones that are nought by it. */
    static final int[] GIVENS_OF_ROW = {510, 509, 507, 439, 367, 223, 455, 63};

    private final Sentences s;

    private TermEdges(Sentences s) {
        this.s = s;
    }

    static void all(Sentences s) {
        TermEdges edges = new TermEdges(s);
        edges.lastCall();
        edges.noneIsMinusOne();
        edges.setsAsBits();
        edges.fourPlaces();
        edges.oneToThreeStates();
        edges.statesFromNoughtOn();
        edges.oneToSixteen();
        edges.numbersOfSettings();
        edges.noDoubtOfWeightNought();
        edges.doubtOfEmptySet();
        edges.tenLaws();
        edges.lawsAtFirst();
        edges.ninePlainOnes();
        edges.plainLeft();
        edges.plainTold();
        edges.plainToldGivenThird();
        edges.rowsOfOne();
        edges.rowsOfTwo();
        edges.rowOfThree();
        edges.rowOfSingleAndOther();
        edges.wordsOfSettings();
        edges.oneSettingAlone();
        edges.meanAdded();
    }

    private void lastCall() {
        s.hold("What it is", "An object is used for at most 512 calls after it has been made; what later calls answer is free.");
        TellingBench x = new TellingBench();
        s.yes("call 1: world(0, 3, 3, 3)", x.world(0, 3, 3, 3));
        for (int call = 2; call < 512; call += 2) {
            int w = call / 2 % 17;
            s.yes("call " + call + ": weight(0, 2, 2, 2, " + w + ")", x.weight(0, 2, 2, 2, w));
            s.is("call " + (call + 1) + ": told(0, 36)", x.told(0, 36), w);
        }
        s.is("call 512: told(0, 4)", x.told(0, 4), 255 % 17);
        for (int call = 513; call < 600; call++) {
            x.weight(0, 1, 1, 1, 1);
            x.near(0, 0);
        }
    }

    private void noneIsMinusOne() {
        s.hold("Terms", "The constants: `NONE = -1`: There is none.");
        s.is("NONE", TellingBench.NONE, -1);
    }

    private void setsAsBits() {
        s.hold("Terms", "THINGS A, B, C (0, 1, 2); SETS of them as bits 1, 2, 4 (0 to 7).");
        TellingBench x = new TellingBench();
        Scene.make(x, 0, 2, 1, 1, 1, 1);
        Scene.make(x, 1, 1, 2, 1, 1, 1);
        Scene.make(x, 2, 1, 1, 2, 1, 1);
        for (int set = 1; set <= 7; set++) {
            x.law(set, set, 1);
            for (int thing = 0; thing < 3; thing++) {
                int has = (set & 1 << thing) != 0 ? 1 : 0;
                s.is("16 times the doubt of set " + set + ", all of it thing " + thing + "'s", x.near(thing, set), 16 * has);
            }
        }
        s.is("mean(0, 0)", x.mean(0, 0), -1);
        s.is("mean(0, 8)", x.mean(0, 8), -1);
    }

    private void fourPlaces() {
        s.hold("Terms", "WORLDS, four places 0 to 3:");
        TellingBench x = new TellingBench();
        for (int g = 0; g <= 3; g++) {
            s.yes("world(" + g + ", ..)", x.world(g, 1, 1, 3));
            s.yes("weight(" + g + ", ..)", x.weight(g, 0, 0, 2, 10 + g));
        }
        for (int g = 0; g <= 3; g++) {
            s.is("told(" + g + ", 28)", x.told(g, 28), 10 + g);
        }
        for (int g : Scene.outside(0, 3)) {
            s.no("world(" + g + ", 1, 1, 1)", x.world(g, 1, 1, 1));
        }
    }

    private void oneToThreeStates() {
        s.hold("Terms", "of each THING how many STATES (1 to 3),");
        TellingBench x = new TellingBench();
        for (int thing = 0; thing < 3; thing++) {
            for (int states = -1; states <= 5; states++) {
                int a = thing == 0 ? states : 2;
                int b = thing == 1 ? states : 2;
                int c = thing == 2 ? states : 2;
                boolean due = states >= 1 && states <= 3;
                s.is("world(0, " + a + ", " + b + ", " + c + ")", x.world(0, a, b, c) ? 1 : 0, due ? 1 : 0);
            }
        }
    }

    private void statesFromNoughtOn() {
        s.hold("Terms", "of each SETTING (a state of each, from 0 on) a WEIGHT, a whole number;");
        TellingBench x = new TellingBench();
        x.world(0, 2, 3, 1);
        s.yes("the first setting", x.weight(0, 0, 0, 0, 1));
        s.yes("the last setting", x.weight(0, 1, 2, 0, 2));
        s.no("a is 2 of 2", x.weight(0, 2, 0, 0, 1));
        s.no("b is 3 of 3", x.weight(0, 0, 3, 0, 1));
        s.no("c is 1 of 1", x.weight(0, 0, 0, 1, 1));
        s.is("N", x.told(0, 4), 3);
    }

    private void oneToSixteen() {
        s.hold("Terms", "N, the sum of all, is 1 to 16 in a world that is MADE.");
        TellingBench x = new TellingBench();
        x.world(0, 2, 1, 1);
        s.is("made with N 0", x.told(0, 0), 0);
        x.weight(0, 0, 0, 0, 1);
        s.is("made with N 1", x.told(0, 0), 1);
        x.weight(0, 1, 0, 0, 15);
        s.is("made with N 16", x.told(0, 0), 1);
        s.is("N", x.told(0, 4), 16);
        s.no("N 17", x.weight(0, 0, 0, 0, 2));
        s.no("N 32", x.mix(0, 0, 1));
        s.is("N stays", x.told(0, 4), 16);
    }

    private void numbersOfSettings() {
        s.hold("Terms", "A SETTING's number: a + 3 b + 9 c.");
        for (int setting = 0; setting < 27; setting++) {
            TellingBench x = new TellingBench();
            x.world(2, 3, 3, 3);
            x.weight(2, setting % 3, setting / 3 % 3, setting / 9, 7);
            for (int other = 0; other < 27; other++) {
                s.is("told(2, " + (10 + other) + ")", x.told(2, 10 + other), other == setting ? 7 : 0);
            }
        }
    }

    private void noDoubtOfWeightNought() {
        s.hold("Terms", "DOUBT of a SET: the sum over all settings of its THINGS (WEIGHTS w added over those of the"
            + " others, w above 0) of w / N times the logarithm to the base of 2 of N / w.");
        TellingBench x = new TellingBench();
        x.law(0, 1, 1);
        x.law(1, 7, 1);
        Scene.make(x, 0, 3, 1, 1, 8, 0, 8);
        s.is("weights 8, 0, 8: one bit", x.near(0, 0), 16);
        Scene.make(x, 1, 2, 2, 2, 1, 3, 2, 2, 1, 1, 4, 2);
        s.is("8 and 8 of A, added over B and C: one bit", x.near(1, 0), 16);
        s.is("and more doubt of all three", x.sign(1, 1), 1);
        Scene.make(x, 2, 3, 3, 3, 0, 0, 0, 0, 16);
        s.is("w is N, 16: no doubt", x.near(2, 1), 0);
        Scene.make(x, 3, 3, 3, 3, 0, 1);
        s.is("w is N, 1: no doubt", x.sign(3, 1), 0);
        Scene.make(x, 3, 3, 3, 3, 1, 1, 1, 1, 1, 1, 1, 1, 1, 1, 1, 1, 1, 1, 1, 1);
        s.is("16 weights of 1: four bits", x.near(3, 1), 64);
    }

    private void doubtOfEmptySet() {
        s.hold("Terms", "Of the empty SET 0.");
        TellingBench x = new TellingBench();
        Scene.make(x, 0, 2, 2, 2, 2, 2, 2, 2, 2, 2, 2, 2);
        s.no("a law has no number of it", x.law(0, 0, -2));
        s.is("it adds nothing to a sum", x.near(0, 0), 0);
        for (int row = 0; row < 8; row++) {
            s.is("nor by row " + row, x.breaks(0, GIVENS_OF_ROW[row]), -1);
        }
        x.plain(1, 3);
        s.is("what A and B tell of one another, nothing given", x.near(0, 1), 0);
    }

    private void tenLaws() {
        s.hold("Terms", "A LAW, ten places 0 to 9, is a row of seven whole numbers -2 to 2, for the SETS 1 to 7: its SUM"
            + " in a world: of these times the DOUBTS.");
        TellingBench x = new TellingBench();
        Scene.make(x, 0, 2, 2, 2, 2, 2, 2, 2, 2, 2, 2, 2);
        for (int l = 0; l <= 9; l++) {
            for (int set = 1; set <= 7; set++) {
                s.yes("law(" + l + ", " + set + ", ..)", x.law(l, set, l < 5 ? -2 : 2));
            }
        }
        for (int l = 0; l <= 9; l++) {
            s.is("16 times -2 or 2 times 12 bits, law " + l, x.near(0, l), l < 5 ? -384 : 384);
        }
        s.no("law(-1, 1, 1)", x.law(-1, 1, 1));
        s.no("law(10, 1, 1)", x.law(10, 1, 1));
        s.no("law(0, 0, 1)", x.law(0, 0, 1));
        s.no("law(0, 8, 1)", x.law(0, 8, 1));
        s.no("law(0, 1, -3)", x.law(0, 1, -3));
        s.no("law(0, 1, 3)", x.law(0, 1, 3));
    }

    private void lawsAtFirst() {
        s.hold("Terms", "At first all are 0.");
        TellingBench x = new TellingBench();
        Scene.make(x, 0, 2, 2, 2, 1, 0, 0, 2, 0, 3, 4, 0);
        for (int l = 0; l <= 9; l++) {
            s.is("sign(0, " + l + ")", x.sign(0, l), 0);
            s.is("number(" + l + ", 7)", x.number(l, 7), 0);
        }
    }

    private void ninePlainOnes() {
        s.hold("Terms", "PLAIN ones, 0 to 8 (x', x\" the others of x):");
        TellingBench x = new TellingBench();
        for (int p = 0; p <= 8; p++) {
            s.yes("plain(0, " + p + ")", x.plain(0, p));
        }
        s.no("plain(0, -1)", x.plain(0, -1));
        s.no("plain(0, 9)", x.plain(0, 9));
    }

    private void plainIs(int p, int... numbers) {
        TellingBench x = new TellingBench();
        Scene.put(x, 0, 2, 2, 2, 2, 2, 2, 2);
        x.plain(0, p);
        for (int set = 1; set <= 7; set++) {
            s.is("plain one " + p + ", set " + set, x.number(0, set), numbers[set - 1]);
        }
    }

    private void plainLeft() {
        s.hold("Terms", "0 to 2: what A (B, C) is left of all: DOUBT of ABC less that of the two others.");
        plainIs(0, 0, 0, 0, 0, 0, -1, 1);
        plainIs(1, 0, 0, 0, 0, -1, 0, 1);
        plainIs(2, 0, 0, -1, 0, 0, 0, 1);
    }

    private void plainTold() {
        s.hold("Terms", "3 to 5: what two tell of one another (A and B, A and C, B and C): DOUBTS of both added, less"
            + " that of the two.");
        plainIs(3, 1, 1, -1, 0, 0, 0, 0);
        plainIs(4, 1, 0, 0, 1, -1, 0, 0);
        plainIs(5, 0, 1, 0, 1, 0, -1, 0);
    }

    private void plainToldGivenThird() {
        s.hold("Terms", "6 to 8: likewise, given the third one: DOUBTS of each with the third one added, less that of"
            + " ABC, less that of the third one.");
        plainIs(6, 0, 0, 0, -1, 1, 1, -1);
        plainIs(7, 0, -1, 1, 0, 0, 1, -1);
        plainIs(8, -1, 0, 1, 0, 1, 0, -1);
    }

    /** Asks for a row's number of each set by laws that only this row can break. */
    private void rowIs(int row, int... numbers) {
        int setOfOne = 1;
        while (numbers[setOfOne - 1] != 1) {
            setOfOne++;
        }
        for (int set = 1; set <= 7; set++) {
            for (int least = 0; least <= 2; least++) {
                TellingBench x = new TellingBench();
                int[] law = new int[7];
                law[setOfOne - 1] += least;
                law[set - 1]--;
                Scene.put(x, 0, law);
                int due = numbers[set - 1] > least ? row : -1;
                s.is("row " + row + ", set " + set + ", above " + least, x.breaks(0, GIVENS_OF_ROW[row]), due);
            }
        }
    }

    private void rowsOfOne() {
        s.hold("Terms", "ROWS of doubts 0 to 7: 0 to 2: 1 for each SET that has A (B, C), else 0.");
        rowIs(0, 1, 0, 1, 0, 1, 0, 1);
        rowIs(1, 0, 1, 1, 0, 0, 1, 1);
        rowIs(2, 0, 0, 0, 1, 1, 1, 1);
    }

    private void rowsOfTwo() {
        s.hold("Terms", "3 to 5: 1 for each SET that has one of A and B (A and C, B and C), else 0.");
        rowIs(3, 1, 1, 1, 0, 1, 1, 1);
        rowIs(4, 1, 0, 1, 1, 1, 1, 1);
        rowIs(5, 0, 1, 1, 1, 1, 1, 1);
    }

    private void rowOfThree() {
        s.hold("Terms", "6: 1 for each but the empty one.");
        rowIs(6, 1, 1, 1, 1, 1, 1, 1);
    }

    private void rowOfSingleAndOther() {
        s.hold("Terms", "7: 1 for SETS of one THING, 2 for others but the empty one.");
        rowIs(7, 1, 1, 2, 1, 2, 2, 2);
    }

    private void wordsOfSettings() {
        s.hold("Terms", "WORDS: of a SET's settings with WEIGHTS above 0 (of several THINGS, too): rows of bits, none of"
            + " which begins another one;");
        TellingBench x = new TellingBench();
        Scene.make(x, 0, 3, 1, 1, 8, 0, 8);
        s.is("two words, as one weight is 0", x.mean(0, 1), 16);
        Scene.make(x, 1, 2, 2, 1, 1, 1, 1, 1);
        s.is("four words of two things", x.mean(1, 3), 8);
        Scene.make(x, 2, 1, 2, 1, 1, 15);
        s.is("no word begins the other, so each has a bit", x.mean(2, 2), 16);
        s.no("a word without a bit would begin the other", x.words(2, 10));
    }

    private void oneSettingAlone() {
        s.hold("Terms", "of one setting alone the word has no bit.");
        TellingBench x = new TellingBench();
        Scene.make(x, 0, 3, 3, 3, 0, 0, 0, 0, 16);
        for (int set = 1; set <= 7; set++) {
            s.is("mean(0, " + set + ")", x.mean(0, set), 0);
        }
        s.yes("words(1, 0)", x.words(1, 0));
    }

    private void meanAdded() {
        s.hold("Terms", "Their MEAN: WEIGHT times bits, added (by N it would be the mean).");
        TellingBench x = new TellingBench();
        Scene.make(x, 0, 3, 1, 1, 1, 2, 4);
        s.is("1 and 2 times two bits, 4 times one", x.mean(0, 1), 10);
        Scene.make(x, 1, 3, 1, 1, 2, 4, 8);
        s.is("twice as much of twice the weights", x.mean(1, 1), 20);
    }
}
