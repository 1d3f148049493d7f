/** The boundaries that 'SHIRTS' names, and the promises that make shirts or tell of them and of bins. */
public final class ShirtEdgesTest {
    private static final int ROOM = 6;
    private static final int SPREAD = 7;

    private static final int UNKNOWN = ShirtButtons.UNKNOWN;
    private static final int OUT_OF_RANGE = ShirtButtons.OUT_OF_RANGE;
    private static final int NOT_POSSIBLE = ShirtButtons.NOT_POSSIBLE;
    private static final int NONE = ShirtButtons.NONE;
    private static final int TOO_FEW = -11;
    private static final int NOT_ALIKE = -12;

    private static final Check check = new Check("ShirtEdgesTest");

    public static void main(String[] args) {
        bySpreadAtMost();
        spreadOfMany();
        inTheOrderOfTheirShine();
        lowerNumberFirst();
        firstOnesFromTheBeginning();
        sideBySide();
        oneTo9();
        anyBin();
        fewerInTheBin();
        firstReasonThatApplies();
        atLeast0();
        chipsOfAll();
        numbersOfShirts();
        whatAShirtHas();
        polishShine();
        polishChips();
        polishWhere();
        polishWhich();
        inBinRanks();
        binOfNone();
        binTakesMore();
        binMostAlike();
        binSpreadOfAll();
        binRanges();
        leastSpreadEnds();
        leastSpreadFewer();
        shirtsOfAllBins();
        shirtsOneAfterTheOther();
        shirtsAsMade();
        shirtsRanges();
        buttonRanges();
        totalRanges();
        check.end();
    }

    private static void due(String what, int got, int want) {
        check.due(what, got, want);
    }

    /** A machine with buttons of these shines in bin 0, which has room for 20. */
    private static ShirtButtons shines(int... shines) {
        ShirtButtons x = Check.withSettings(ROOM, 20);
        for (int shine : shines) {
            Check.bring(x, "1h9s" + shine);
        }
        if (shines.length > 0) {
            x.sort(shines.length);
        }
        return x;
    }

    /** "the greatest shine of them is above the least one by SPREAD at most" */
    private static void bySpreadAtMost() {
        for (int spread = 0; spread <= 9; spread++) {
            for (int d = 0; d <= 9; d++) {
                ShirtButtons x = shines(9 - d, 9);
                x.set(SPREAD, spread);
                boolean alike = d <= spread;
                String what = d + " apart, SPREAD " + spread + ": ";
                due(what + "reason", x.reason(0, 2), alike ? 0 : 2);
                due(what + "leastSpread", x.leastSpread(0, 2), d);
                due(what + "most alike", x.bin(0, 3), alike ? 2 : 1);
                due(what + "least SPREAD of all", x.bin(0, 4), d);
                due(what + "shirts", x.shirts(2), alike ? 1 : 0);
                due(what + "shirt", x.shirt(0, 2), alike ? 18 - d : NOT_ALIKE);
                due(what + "buttons on shirts", x.total(15), alike ? 2 : 0);
            }
        }
    }

    private static void spreadOfMany() {
        ShirtButtons x = shines(1, 2, 3, 4);
        due("three of them", x.reason(0, 3), 0);
        due("four of them", x.reason(0, 4), 2);
        due("shirt(0, 4)", x.shirt(0, 4), NOT_ALIKE);
        x.set(SPREAD, 3);
        due("shirt(0, 4), one more SPREAD", x.shirt(0, 4), 10);
        x = shines(0, 9);
        x.set(SPREAD, 9);
        due("with SPREAD 9 all are alike", x.shirt(0, 2), 9);
        x = shines(4, 4, 5);
        x.set(SPREAD, 0);
        due("with SPREAD 0 like ones are", x.shirt(0, 2), 8);
        due("one is like itself", x.shirt(0, 1), 5);
    }

    /** "put in the order of their shine, the lowest first" */
    private static void inTheOrderOfTheirShine() {
        ShirtButtons x = shines(9, 0, 5, 8, 1, 4);
        check.binIs("by shine", x, 0, 1, 4, 5, 2, 3, 0);
        due("shirt(0, 1)", x.shirt(0, 1), 0);
        due("the lowest has gone", x.button(1, 5), 6);
        due("shirt(0, 2) skips the lowest", x.shirt(0, 2), 9);
        check.binIs("left", x, 0, 4, 3, 0);
    }

    /** "of like shine the lower number first" */
    private static void lowerNumberFirst() {
        ShirtButtons x = shines(5, 3, 5, 3, 5);
        check.binIs("by number", x, 0, 1, 3, 0, 2, 4);
        x.polish(3);
        x.polish(3);
        check.binIs("polished to like shine", x, 0, 1, 0, 2, 3, 4);
        due("shirt(0, 3), SPREAD 2", x.shirt(0, 3), 13);
        check.binIs("the higher numbers are left", x, 0, 3, 4);
        // The number counts, not the way by which it came to the bin.
        x = Check.with("1h9s1,1h9s1,1h9s1");
        x.sort(1);
        x.pour(0);
        x.sort(3);
        check.binIs("sorted last", x, 0, 0, 1, 2);
    }

    /** "the first ones, from the beginning on, that are alike enough" */
    private static void firstOnesFromTheBeginning() {
        ShirtButtons x = shines(0, 2, 5, 5, 9, 9);
        due("not the most alike ones", x.shirt(0, 2), 2);
        check.binIs("left", x, 0, 2, 3, 4, 5);
        x = shines(0, 3, 6, 8, 9, 9);
        due("the first pair that is alike", x.shirt(0, 2), 14);
        check.binIs("left", x, 0, 0, 1, 4, 5);
        x = shines(0, 3, 6, 9, 9);
        due("the last pair", x.shirt(0, 2), 18);
        check.binIs("left", x, 0, 0, 1, 2);
        due("no more pair", x.shirt(0, 2), NOT_ALIKE);
    }

    /** "as many as it wants that stand side by side in that order" */
    private static void sideBySide() {
        ShirtButtons x = shines(0, 1, 2, 3);
        x.set(SPREAD, 3);
        due("three side by side", x.shirt(0, 3), 3);
        check.binIs("left", x, 0, 3);
        x = shines(1, 5, 7, 7, 8);
        due("not across a gap", x.shirt(0, 4), NOT_ALIKE);
        due("three of the four behind it", x.shirt(0, 3), 19);
        check.binIs("left", x, 0, 0, 4);
    }

    /** "A shirt wants some buttons (1 to 9)" */
    private static void oneTo9() {
        ShirtButtons x = Check.withSettings(ROOM, 20);
        Check.bringLike(x, "1h9s1", 10);
        x.sort(10);
        for (int wrong : new int[] {0, -1, 10, 11}) {
            due("shirt(0, " + wrong + ")", x.shirt(0, wrong), OUT_OF_RANGE);
            due("reason(0, " + wrong + ")", x.reason(0, wrong), OUT_OF_RANGE);
            due("leastSpread(0, " + wrong + ")", x.leastSpread(0, wrong), OUT_OF_RANGE);
        }
        due("shirt(0, 9)", x.shirt(0, 9), 9);
        due("shirt(0, 1)", x.shirt(0, 1), 1);
        due("shirts made", x.total(16), 2);
    }

    private static void anyBin() {
        ShirtButtons x = Check.sorted("1h9s5,4h21s6");
        for (int wrong : new int[] {-1, 12}) {
            due("shirt(" + wrong + ", 1)", x.shirt(wrong, 1), UNKNOWN);
            due("reason(" + wrong + ", 1)", x.reason(wrong, 1), UNKNOWN);
            due("leastSpread(" + wrong + ", 1)", x.leastSpread(wrong, 1), UNKNOWN);
        }
        due("leastSpread(11, 1)", x.leastSpread(11, 1), 0);
        due("reason(11, 1)", x.reason(11, 1), 0);
        due("shirt(11, 1)", x.shirt(11, 1), 6);
        due("reason(11, 1), empty", x.reason(11, 1), 1);
        due("shirt(0, 1)", x.shirt(0, 1), 5);
        due("shirt(0, 1), empty", x.shirt(0, 1), TOO_FEW);
    }

    /** "1 fewer buttons are in the bin" */
    private static void fewerInTheBin() {
        for (int many = 1; many <= 9; many++) {
            ShirtButtons x = shines(new int[many - 1]);
            due("reason, one is missing of " + many, x.reason(0, many), 1);
            due("shirt, one is missing of " + many, x.shirt(0, many), TOO_FEW);
            due("leastSpread, one is missing of " + many, x.leastSpread(0, many), NONE);
            x = shines(new int[many]);
            due("reason, just " + many, x.reason(0, many), 0);
            due("leastSpread, just " + many, x.leastSpread(0, many), 0);
            due("shirt, just " + many, x.shirt(0, many), 0);
            due("on the shirt of " + many, x.total(15), many);
        }
        ShirtButtons x = Check.sorted("1h9,2h9");
        due("those of other bins don't count", x.shirt(0, 2), TOO_FEW);
        Check.bring(x, "1h9");
        due("those of the hopper don't count", x.shirt(0, 2), TOO_FEW);
        due("reason", x.reason(0, 2), 1);
    }

    /** "for the first of these reasons that applies" */
    private static void firstReasonThatApplies() {
        ShirtButtons x = shines(0, 9);
        due("both reasons apply", x.shirt(0, 3), TOO_FEW);
        due("reason 1 of both", x.reason(0, 3), 1);
        due("the second alone", x.shirt(0, 2), NOT_ALIKE);
        due("reason 2 alone", x.reason(0, 2), 2);
        due("none", x.reason(0, 1), 0);
        due("no shirt so far", x.total(16), 0);
    }

    /** "the sum of the shine of its buttons, less the chips of all of them, but at least 0" */
    private static void atLeast0() {
        int[][] cases = {{1, 0, 1}, {2, 1, 1}, {1, 1, 0}, {1, 2, 0}, {0, 4, 0}, {9, 0, 9}, {4, 3, 1}, {4, 4, 0}, {0, 0, 0}};
        for (int[] one : cases) {
            ShirtButtons x = Check.sorted("1h9c" + one[1] + "s" + one[0]);
            due("shine " + one[0] + ", chips " + one[1], x.shirt(0, 1), one[2]);
            due("worth of all", x.total(17), one[2]);
            due("it is a shirt all the same", x.total(16), 1);
        }
        // A shirt of less than nothing takes nothing from the others.
        ShirtButtons x = Check.sorted("1h9s5,2h9c4");
        due("worth 5", x.shirt(0, 1), 5);
        due("worth of less than 0", x.shirt(1, 1), 0);
        due("worth of both", x.total(17), 5);
    }

    private static void chipsOfAll() {
        ShirtButtons x = Check.sorted("1h9c4s1,1h9s3,1h9c4s1");
        due("chips of one against shine of another", x.shirt(0, 3), 0);
        x = Check.sorted("1h9c2s1,1h9s2");
        due("3 less 2", x.shirt(0, 2), 1);
        x = Check.sorted("1h10c4s3,1h9s3");
        due("the chip by rubbing, too", x.shirt(0, 2), 1);
        x = Check.withSettings(3, 9);
        Check.bringLike(x, "1h9s9", 9);
        x.sort(9);
        due("the most that a shirt is worth", x.shirt(0, 9), 81);
    }

    /** "from 0 on, in the order in which they were made" */
    private static void numbersOfShirts() {
        ShirtButtons x = Check.sorted("1h9s1,2h9s2,3h9s3,4h9");
        for (int bin = 2; bin >= 0; bin--) {
            due("no shirt yet", x.button(bin, 8), NONE);
            due("shirt(" + bin + ", 1)", x.shirt(bin, 1), bin + 1);
            due("its number", x.button(bin, 8), 2 - bin);
            due("shirts so far", x.total(16), 3 - bin);
        }
        due("a refused shirt has no number", x.shirt(0, 1), TOO_FEW);
        x.undo();
        due("undone", x.button(0, 8), NONE);
        due("the number is free again", x.shirt(3, 1), 0);
        due("its number", x.button(3, 8), 2);
        due("the first one's number", x.button(2, 8), 0);
    }

    private static void whatAShirtHas() {
        ShirtButtons x = shines(3, 3, 3);
        x.shirt(0, 2);
        check.placesAre("a shirt of two", x, 6, 6, 5);
        for (int b = 0; b < 2; b++) {
            due("on a shirt, in no bin", x.button(b, 6), NONE);
            due("on a shirt, not in the hopper", x.button(b, 7), NONE);
            due("on the first shirt", x.button(b, 8), 0);
            due("on a shirt, shine", x.button(b, 4), 3);
        }
        due("left in its bin", x.button(2, 6), 0);
        check.totals("places", x, 9, 0, 0, 0, 0, 0, 1, 2, 1, 6);
        due("pour what is left", x.pour(0), 1);
        check.hopperIs("those on a shirt aren't poured", x, 2);
    }

    /** "NOT_POSSIBLE if ... its shine is 9" */
    private static void polishShine() {
        ShirtButtons x = Check.with("1h9s7,1h9s9");
        due("polish from 7", x.polish(0), 8);
        due("polish from 8", x.polish(0), 9);
        due("polish from 9", x.polish(0), NOT_POSSIBLE);
        due("its shine", x.button(0, 4), 9);
        due("it came with 9", x.polish(1), NOT_POSSIBLE);
        x = Check.with("1h9");
        for (int shine = 1; shine <= 9; shine++) {
            due("polish to " + shine, x.polish(0), shine);
        }
        due("polish beyond", x.polish(0), NOT_POSSIBLE);
    }

    /** "and its chips 1 fewer, if it has any" */
    private static void polishChips() {
        ShirtButtons x = Check.with("1h9c2,1h9c9s8");
        int[] chips = {1, 0, 0};
        for (int i = 0; i < chips.length; i++) {
            due("polish", x.polish(0), i + 1);
            due("chips then", x.button(0, 3), chips[i]);
        }
        due("chips of all", x.total(21), 9);
        due("polish from 9 chips", x.polish(1), 9);
        due("chips of all", x.total(21), 8);
        due("9 shine: not possible", x.polish(1), NOT_POSSIBLE);
        due("its chips stay", x.button(1, 3), 8);
    }

    /** "a button that is not on a shirt" */
    private static void polishWhere() {
        ShirtButtons x = Check.with("1h9i9,1h9c9,1h30,1h9,2h9", "1h9i9,1h9");
        x.sort(1);
        x.letGo();
        x.sort(5);
        x.shirt(1, 1);
        check.placesAre("all places", x, 3, 1, 4, 5, 6, 2, 0);
        for (int b = 0; b < 7; b++) {
            due("polish at place " + x.button(b, 5), x.polish(b), b == 4 ? NOT_POSSIBLE : 1);
        }
        check.placesAre("polishing moves none", x, 3, 1, 4, 5, 6, 2, 0);
        due("shine of the one on a shirt", x.button(4, 4), 0);
    }

    private static void polishWhich() {
        ShirtButtons x = new ShirtButtons();
        due("polish(0) of none", x.polish(0), UNKNOWN);
        Check.bring(x, "1h9,1h9");
        due("polish(-1)", x.polish(-1), UNKNOWN);
        due("polish(2)", x.polish(2), UNKNOWN);
        due("polish(1)", x.polish(1), 1);
        due("polish(0)", x.polish(0), 1);
    }

    private static void inBinRanks() {
        ShirtButtons x = shines(4, 4, 2);
        Check.bring(x, "4h21");
        x.sort(1);
        int[][] cases = {{0, 0, 2}, {0, 1, 0}, {0, 2, 1}, {0, 3, NONE}, {0, -1, OUT_OF_RANGE}, {11, 0, 3}, {11, 1, NONE},
            {11, -1, OUT_OF_RANGE}, {1, 0, NONE}, {1, -1, OUT_OF_RANGE}, {12, 0, UNKNOWN}, {-1, 0, UNKNOWN},
            {12, -1, UNKNOWN}, {-1, -1, UNKNOWN}, {12, 99, UNKNOWN}, {0, 99, NONE}, {0, Integer.MAX_VALUE, NONE},
            {0, Integer.MIN_VALUE, OUT_OF_RANGE}};
        for (int[] one : cases) {
            due("inBin(" + one[0] + ", " + one[1] + ")", x.inBin(one[0], one[1]), one[2]);
        }
        x = Check.withSettings(ROOM, 20);
        Check.bringLike(x, "1h9", 20);
        x.sort(20);
        due("the last of 20", x.inBin(0, 19), 19);
        due("behind the last of 20", x.inBin(0, 20), NONE);
    }

    private static void binOfNone() {
        ShirtButtons x = new ShirtButtons();
        int[] wants = {0, 10, 0, 0, 0};
        for (int what = 0; what < wants.length; what++) {
            due("bin(0, " + what + ") of none", x.bin(0, what), wants[what]);
            due("bin(11, " + what + ") of none", x.bin(11, what), wants[what]);
        }
        x = shines(7);
        int[] ofOne = {1, 19, 7, 1, 0};
        for (int what = 0; what < ofOne.length; what++) {
            due("bin(0, " + what + ") of one", x.bin(0, what), ofOne[what]);
        }
    }

    /** "how many more it takes (0 at least)" */
    private static void binTakesMore() {
        ShirtButtons x = shines(1, 1, 1);
        int[][] cases = {{20, 17}, {4, 1}, {3, 0}, {2, 0}, {0, 0}};
        for (int[] one : cases) {
            x.set(ROOM, one[0]);
            due("takes more with ROOM " + one[0], x.bin(0, 1), one[1]);
            due("an empty bin with ROOM " + one[0], x.bin(1, 1), one[0]);
            due("holds with ROOM " + one[0], x.bin(0, 0), 3);
        }
    }

    /** "the most buttons of it that are alike enough for one shirt (9 at most)" */
    private static void binMostAlike() {
        for (int many = 8; many <= 11; many++) {
            due("alike of " + many, shines(new int[many]).bin(0, 3), Math.min(9, many));
        }
        int[] eleven = {0, 1, 2, 3, 4, 5, 6, 7, 8, 9, 9};
        ShirtButtons x = shines(eleven);
        int[] alike = {2, 3, 4, 5, 6, 7, 8, 9, 9, 9};
        for (int spread = 0; spread <= 9; spread++) {
            x.set(SPREAD, spread);
            due("alike with SPREAD " + spread, x.bin(0, 3), alike[spread]);
        }
        x = shines(0, 3, 6, 9);
        due("one alone", x.bin(0, 3), 1);
        x.set(SPREAD, 3);
        due("two, just SPREAD apart", x.bin(0, 3), 2);
    }

    /** "the least SPREAD with which a shirt of all its buttons could be made (0 if it is empty)" */
    private static void binSpreadOfAll() {
        due("of one", shines(9).bin(0, 4), 0);
        due("of like ones", shines(9, 9).bin(0, 4), 0);
        due("of the least and the greatest", shines(9, 4, 0).bin(0, 4), 9);
        due("of three", shines(6, 4, 5).bin(0, 4), 2);
        due("of nine", shines(2, 3, 4, 5, 6, 7, 7, 7, 8).bin(0, 4), 6);
        due("of ten", shines(2, 3, 4, 5, 6, 7, 7, 7, 7, 9).bin(0, 4), 7);
        ShirtButtons x = shines(2, 5);
        x.shirt(0, 1);
        due("of the one that is left", x.bin(0, 4), 0);
        x.shirt(0, 1);
        due("when none is left", x.bin(0, 4), 0);
    }

    private static void binRanges() {
        ShirtButtons x = shines(3, 4);
        int[][] cases = {{0, 0, 2}, {0, 4, 1}, {0, 5, OUT_OF_RANGE}, {0, -1, OUT_OF_RANGE}, {11, 0, 0}, {11, 1, 20},
            {12, 0, UNKNOWN}, {-1, 0, UNKNOWN}, {12, 5, UNKNOWN}, {-1, -1, UNKNOWN}, {0, 2, 7}};
        for (int[] one : cases) {
            due("bin(" + one[0] + ", " + one[1] + ")", x.bin(one[0], one[1]), one[2]);
        }
    }

    /** "Returns the value, 0 to 9" */
    private static void leastSpreadEnds() {
        due("leastSpread 0", shines(9, 9, 0).leastSpread(0, 2), 0);
        due("leastSpread 9", shines(0, 9).leastSpread(0, 2), 9);
        due("leastSpread of one", shines(0, 9).leastSpread(0, 1), 0);
        due("at the end of the order", shines(0, 5, 8).leastSpread(0, 2), 3);
        due("at the beginning of the order", shines(0, 3, 8).leastSpread(0, 2), 3);
        due("in the middle of the order", shines(0, 4, 5, 9).leastSpread(0, 2), 1);
        due("of nine", shines(0, 1, 2, 3, 4, 5, 6, 7, 8).leastSpread(0, 9), 8);
        due("nine of ten", shines(0, 2, 2, 3, 4, 5, 6, 7, 8, 9).leastSpread(0, 9), 7);
        ShirtButtons x = shines(0, 4, 9);
        x.set(SPREAD, 9);
        due("SPREAD itself doesn't matter", x.leastSpread(0, 2), 4);
        x.set(SPREAD, 0);
        due("SPREAD itself doesn't matter", x.leastSpread(0, 2), 4);
        x.set(SPREAD, 3);
        due("with one less there is none", x.reason(0, 2), 2);
        x.set(SPREAD, 4);
        due("with that there is one", x.reason(0, 2), 0);
    }

    /** "NONE if fewer buttons are in the bin" */
    private static void leastSpreadFewer() {
        ShirtButtons x = shines(0, 9);
        due("just so many", x.leastSpread(0, 2), 9);
        due("one fewer", x.leastSpread(0, 3), NONE);
        due("the empty bin", x.leastSpread(1, 1), NONE);
        due("the range first", x.leastSpread(1, 10), OUT_OF_RANGE);
        due("the range first", x.leastSpread(1, 0), OUT_OF_RANGE);
        due("the bin first", x.leastSpread(12, 10), UNKNOWN);
        due("the bin first", x.leastSpread(-1, 0), UNKNOWN);
        due("reason: the range first", x.reason(1, 10), OUT_OF_RANGE);
        due("reason: the bin first", x.reason(12, 0), UNKNOWN);
        due("shirt: the range first", x.shirt(1, 10), OUT_OF_RANGE);
        due("shirt: the bin first", x.shirt(12, 0), UNKNOWN);
    }

    /** "how many shirts could be made of all bins, as they are" */
    private static void shirtsOfAllBins() {
        ShirtButtons x = new ShirtButtons();
        due("of no buttons", x.shirts(1), 0);
        for (int b = 0; b < 12; b++) {
            Check.bring(x, (b % 4 + 1) + "h" + (b < 4 ? 1 : b < 8 ? 11 : 16));
        }
        due("those in the hopper don't count", x.shirts(1), 0);
        x.sort(12);
        due("one of each bin", x.shirts(1), 12);
        due("not of two bins", x.shirts(2), 0);
        Check.bring(x, "1h1,4h16");
        x.sort(2);
        due("two bins have two", x.shirts(2), 2);
        due("of all 14", x.shirts(1), 14);
        x.shirt(0, 2);
        due("those on shirts don't count", x.shirts(1), 12);
    }

    /** "one after the other, each of so many buttons" */
    private static void shirtsOneAfterTheOther() {
        int[] seven = {0, 2, 3, 5, 6, 8, 9};
        int[] wants = {7, 3, 0, 0, 0, 0, 0, 0, 0};
        ShirtButtons x = shines(seven);
        for (int many = 1; many <= 9; many++) {
            due("shirts(" + many + ") of seven", x.shirts(many), wants[many - 1]);
        }
        x = Check.withSettings(ROOM, 20);
        Check.bringLike(x, "1h9", 18);
        x.sort(18);
        int[] of18 = {18, 9, 6, 4, 3, 3, 2, 2, 2};
        for (int many = 1; many <= 9; many++) {
            due("shirts(" + many + ") of 18", x.shirts(many), of18[many - 1]);
        }
        due("an unlike one is left out", shines(0, 4, 5, 9, 9).shirts(2), 2);
        due("just enough for one", shines(0, 1, 2).shirts(3), 1);
        due("the unlike one is in the middle", shines(0, 0, 4, 8, 8).shirts(2), 2);
    }

    private static void shirtsAsMade() {
        ShirtButtons x = shines(0, 1, 1, 3, 3, 4, 6, 9, 9, 9);
        for (int many = 1; many <= 9; many++) {
            int told = x.shirts(many);
            ShirtButtons made = shines(0, 1, 1, 3, 3, 4, 6, 9, 9, 9);
            int count = 0;
            while (made.shirt(0, many) >= 0) {
                count++;
            }
            due("shirts(" + many + ") as made", told, count);
        }
        due("none was made", x.total(16), 0);
        due("all are in the bin", x.bin(0, 0), 10);
    }

    private static void shirtsRanges() {
        ShirtButtons x = shines(1, 1, 1, 1, 1, 1, 1, 1, 1);
        due("shirts(-1)", x.shirts(-1), OUT_OF_RANGE);
        due("shirts(0)", x.shirts(0), OUT_OF_RANGE);
        due("shirts(1)", x.shirts(1), 9);
        due("shirts(9)", x.shirts(9), 1);
        due("shirts(10)", x.shirts(10), OUT_OF_RANGE);
        x = new ShirtButtons();
        due("shirts(0) of none", x.shirts(0), OUT_OF_RANGE);
        due("shirts(10) of none", x.shirts(10), OUT_OF_RANGE);
        due("shirts(9) of none", x.shirts(9), 0);
    }

    private static void buttonRanges() {
        ShirtButtons x = Check.with("4h30i9c8s7,1h9");
        int[] wants = {4, 30, 9, 8, 7, 0, NONE, 0, NONE, 0};
        for (int what = 0; what < wants.length; what++) {
            due("button(0, " + what + ")", x.button(0, what), wants[what]);
        }
        due("button(0, -1)", x.button(0, -1), OUT_OF_RANGE);
        due("button(0, 10)", x.button(0, 10), OUT_OF_RANGE);
        due("button(1, 7)", x.button(1, 7), 1);
        due("button(2, 0)", x.button(2, 0), UNKNOWN);
        due("button(-1, 0)", x.button(-1, 0), UNKNOWN);
        due("button(2, 10)", x.button(2, 10), UNKNOWN);
        due("button(-1, -1)", x.button(-1, -1), UNKNOWN);
        x.sort(1);
        due("its rank at the waste", x.button(0, 7), NONE);
        due("the other one's rank", x.button(1, 7), 0);
    }

    private static void totalRanges() {
        ShirtButtons x = new ShirtButtons();
        due("total(-1)", x.total(-1), OUT_OF_RANGE);
        due("total(0)", x.total(0), 10);
        due("total(7)", x.total(7), 2);
        due("total(8)", x.total(8), 0);
        due("total(23)", x.total(23), 0);
        due("total(24)", x.total(24), OUT_OF_RANGE);
        x = Check.with("1h9i9,1h9c9,1h30,1h9,2h9s7", "1h9i9,1h10");
        x.sort(1);
        x.letGo();
        x.sort(5);
        x.shirt(1, 1);
        x.type('x');
        check.totals("one at each place", x, 8, 7, 1, 1, 1, 1, 1, 1, 1, 1, 7, 6, 0, 0, 9, 4, 1);
        x.set(ROOM, 1);
        x.sort(1);
        check.totals("one went back, rubbed", x, 16, 1, 7, 7, 1, 1, 10, 4, 1);
    }
}
