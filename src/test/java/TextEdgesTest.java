/** The boundaries that 'TEXTS' and 'BUTTONS' name, and the promises read, type and clearText. */
public final class TextEdgesTest {
    private static final int FULL = ShirtButtons.FULL;
    private static final int UNKNOWN = ShirtButtons.UNKNOWN;
    private static final int NO_FAULT = -1;

    private static final Check check = new Check("TextEdgesTest");

    public static void main(String[] args) {
        atMost60Characters();
        anyCharacter();
        emptyAtFirst();
        clearTextLength();
        holes();
        sizes();
        partsOfAButton();
        withoutParts();
        orderOfParts();
        zerosAhead();
        between();
        endsTooEarly();
        eachSignAtEachPlace();
        faultsFarBehind();
        fullTexts();
        atMost40();
        numberedFrom0();
        fullOrFault();
        toTheEndOfTheHopper();
        textStays();
        check.end();
    }

    private static void due(String what, int got, int want) {
        check.due(what, got, want);
    }

    /** A text with this fault, or without one, in which so many buttons are then. */
    private static ShirtButtons reads(String text, int fault, int many) {
        ShirtButtons x = new ShirtButtons();
        Check.write(x, text);
        due("read() of \"" + text + "\"", x.read(), fault == NO_FAULT ? many : -100 - fault);
        check.totals("after \"" + text + "\"", x, 8, fault == NO_FAULT ? many : 0, fault == NO_FAULT ? many : 0);
        check.totals("after \"" + text + "\"", x, 22, fault == NO_FAULT ? 1 : 0, text.length());
        return x;
    }

    private static ShirtButtons good(String text) {
        return reads(text, NO_FAULT, 1);
    }

    private static void bad(String text, int fault) {
        reads(text, fault, 0);
    }

    private static void buttonIs(ShirtButtons x, int button, int... wants) {
        for (int what = 0; what < wants.length; what++) {
            due("button(" + button + ", " + what + ")", x.button(button, what), wants[what]);
        }
    }

    /** "There is a text of at most 60 characters"; "FULL if it has 60 characters" */
    private static void atMost60Characters() {
        ShirtButtons x = new ShirtButtons();
        String text = Check.like("1h1", 15);
        for (int i = 0; i < 59; i++) {
            due("type", x.type(text.charAt(i)), i + 1);
        }
        due("the length", x.total(23), 59);
        due("59 characters are read", x.read(), 15);
        due("type the 60th", x.type('0'), 60);
        due("60 characters are read", x.read(), 15);
        due("the last one is of size 10", x.button(29, 1), 10);
        due("type the 61st", x.type('i'), FULL);
        due("type the 61st again", x.type('0'), FULL);
        due("the length", x.total(23), 60);
        due("the text is as it was", x.read(), FULL);
        due("clearText of 60", x.clearText(), 60);
        due("type is possible again", x.type('1'), 1);
    }

    private static void anyCharacter() {
        char[] some = {0, 1, '\t', '\n', ' ', 127, 128, 255, 256, 0x131, 0x168, 0xd800, 0xffff};
        ShirtButtons x = new ShirtButtons();
        for (int i = 0; i < some.length; i++) {
            due("type((char) " + (int) some[i] + ")", x.type(some[i]), i + 1);
            due("the length", x.total(23), i + 1);
        }
        due("none of them begins a button", x.read(), -100);
    }

    /** "empty at first"; "(the empty text does)" */
    private static void emptyAtFirst() {
        ShirtButtons x = new ShirtButtons();
        due("the length at first", x.total(23), 0);
        due("clearText() at first", x.clearText(), 0);
        due("read() at first", x.read(), -100);
        check.totals("nothing came", x, 8, 0, 0);
        due("nothing is recorded", x.total(22), 0);
    }

    private static void clearTextLength() {
        for (int length : new int[] {0, 1, 2, 59, 60}) {
            ShirtButtons x = new ShirtButtons();
            for (int i = 0; i < length; i++) {
                x.type(i % 4 == 3 ? ',' : i % 2 == 1 ? 'h' : '1');
            }
            due("clearText() of " + length, x.clearText(), length);
            due("length then", x.total(23), 0);
            due("read() then", x.read(), -100);
            due("clearText() again", x.clearText(), 0);
        }
        ShirtButtons x = new ShirtButtons();
        Check.write(x, "1h12i3");
        Check.write(x, "4h3");
        due("a shorter text", x.read(), 1);
        buttonIs(x, 0, 4, 3, 0, 0, 0);
    }

    /** "A button has holes (1 to 4)" */
    private static void holes() {
        for (int holes = 0; holes <= 9; holes++) {
            if (holes < 1 || holes > 4) {
                bad(holes + "h1", 0);
            } else {
                buttonIs(good(holes + "h1"), 0, holes, 1);
            }
        }
        bad("10h1", 1);
        bad("44h1", 1);
        bad("-1h1", 0);
    }

    /** "its size (1 to 30)"; "a digit by which a size would be above 30 is not allowed" */
    private static void sizes() {
        for (int size = 1; size <= 30; size++) {
            buttonIs(good("2h" + size), 0, 2, size);
        }
        bad("2h0", 2);
        for (int size = 31; size <= 99; size++) {
            bad("2h" + size, 3);
        }
        for (int size = 100; size <= 309; size++) {
            // The first two digits are a size still.
            bad("2h" + size, 4);
        }
        for (int size = 310; size <= 999; size += 23) {
            bad("2h" + size, 3);
        }
    }

    /** "iron (0 to 9), chips (0 to 9) and shine (0 to 9)" */
    private static void partsOfAButton() {
        String[] names = {"i", "c", "s"};
        for (int part = 0; part < 3; part++) {
            for (int value = 0; value <= 9; value++) {
                ShirtButtons x = good("3h17" + names[part] + value);
                buttonIs(x, 0, 3, 17, part == 0 ? value : 0, part == 1 ? value : 0, part == 2 ? value : 0);
            }
            bad("3h17" + names[part] + "10", 6);
            bad("3h17" + names[part] + "-1", 5);
            bad("3h17" + names[part] + "/", 5);
            bad("3h17" + names[part] + ":", 5);
        }
    }

    /** "digits; 0 each without them" */
    private static void withoutParts() {
        for (int mask = 0; mask < 8; mask++) {
            String text = "4h30" + ((mask & 1) > 0 ? "i7" : "") + ((mask & 2) > 0 ? "c8" : "") + ((mask & 4) > 0 ? "s9" : "");
            buttonIs(good(text), 0, 4, 30, (mask & 1) > 0 ? 7 : 0, (mask & 2) > 0 ? 8 : 0, (mask & 4) > 0 ? 9 : 0);
        }
        // What the one before had isn't left for those without.
        ShirtButtons x = reads("1h1i1c2s3,2h2,3h3s4,4h4c5,1h5i6", NO_FAULT, 5);
        int[][] wants = {{1, 1, 1, 2, 3}, {2, 2, 0, 0, 0}, {3, 3, 0, 0, 4}, {4, 4, 0, 5, 0}, {1, 5, 6, 0, 0}};
        for (int b = 0; b < wants.length; b++) {
            buttonIs(x, b, wants[b]);
        }
        Check.write(x, "4h7,3h8");
        due("read() again", x.read(), 2);
        buttonIs(x, 5, 4, 7, 0, 0, 0);
        buttonIs(x, 6, 3, 8, 0, 0, 0);
    }

    /** "perhaps, in this order" */
    private static void orderOfParts() {
        String[] wrong = {"1h9i1i2", "1h9c1i2", "1h9c1c2", "1h9s1i2", "1h9s1c2", "1h9s1s2"};
        for (String text : wrong) {
            bad(text, 5);
        }
        bad("1h9i1c1i1", 7);
        bad("1h9i1s1c1", 7);
        bad("1h9i1c1s1s1", 9);
        bad("1h9i1c1s1i1", 9);
        bad("1h9h1", 3);
        bad("h91", 0);
        bad("i1", 0);
    }

    /** "Numbers have no zeros ahead of other digits" */
    private static void zerosAhead() {
        bad("01h1", 0);
        bad("1h01", 2);
        bad("1h00", 2);
        bad("1h030", 2);
        bad("1h9i00", 5);
        bad("1h9i01", 5);
        bad("1h9c00", 5);
        bad("1h9c01", 5);
        bad("1h9s00", 5);
        bad("1h9s01", 5);
        good("1h10i0c0s0");
    }

    /** "a list of one or more buttons with "," between two" */
    private static void between() {
        reads("1h9", NO_FAULT, 1);
        reads("1h9,1h9", NO_FAULT, 2);
        reads("1h9,1h9,1h9", NO_FAULT, 3);
        bad(",", 0);
        bad(",1h9", 0);
        bad("1h9,,1h9", 4);
        bad("1h91h9", 3);
        bad("1h101h9", 4);
        bad("1h30 ,1h9", 4);
        bad("1h9, 1h9", 4);
        bad("1h9;1h9", 3);
        bad("1h9s1,,", 6);
    }

    /** "or the length of the text if it ends too early" */
    private static void endsTooEarly() {
        String[] texts = {"", "1", "1h", "1h9i", "1h9c", "1h9s", "1h9i1c", "1h9i1s", "1h9c1s", "1h9i1c1s", "1h9,", "1h9,4",
            "1h9,4h", "1h9,4h3i", "1h9,4h30,", "1h1i0c0s0,2"};
        for (String text : texts) {
            bad(text, text.length());
        }
        String longest = Check.like("1h1", 15);
        bad(longest + ",", 60);
        bad(longest + "i", 60);
        bad(longest.substring(0, 58), 58);
        bad(longest.substring(0, 57), 57);
        bad(longest.substring(0, 56), 56);
    }

    /** What is allowed behind a beginning, and whether the beginning is a text by itself. */
    private static final String[][] ALLOWED = {
        {"", "1234"}, {"1", "h"}, {"4", "h"}, {"1h", "123456789"},
        {"1h1", "0123456789ics,"}, {"1h2", "0123456789ics,"}, {"1h3", "0ics,"}, {"1h4", "ics,"}, {"1h9", "ics,"},
        {"1h10", "ics,"}, {"1h29", "ics,"}, {"1h30", "ics,"},
        {"1h5i", "0123456789"}, {"1h5i0", "cs,"}, {"1h5i9", "cs,"}, {"1h15i5", "cs,"},
        {"1h5c", "0123456789"}, {"1h5c0", "s,"}, {"1h5c9", "s,"}, {"1h5i5c", "0123456789"}, {"1h5i5c5", "s,"},
        {"1h5s", "0123456789"}, {"1h5s0", ","}, {"1h5s9", ","}, {"1h5i5s", "0123456789"}, {"1h5i5s5", ","},
        {"1h5c5s", "0123456789"}, {"1h5c5s5", ","}, {"1h5i5c5s", "0123456789"}, {"1h5i5c5s5", ","},
        {"1h5,", "1234"}, {"1h5,2", "h"}, {"1h5,2h", "123456789"}, {"1h5,2h1", "0123456789ics,"}, {"1h5,2h3", "0ics,"},
        {"1h5,2h4", "ics,"}, {"1h5i1,2h4i", "0123456789"}, {"1h5c1s1,2h4i1", "cs,"}, {"1h5s1,2h4c1", "s,"}};

    /** "the index, from 0, of the first character that is not allowed at its place" */
    private static void eachSignAtEachPlace() {
        for (String[] one : ALLOWED) {
            for (int sign = 0; sign < 256; sign++) {
                signBehind(one[0], (char) sign, one[1].indexOf(sign) >= 0);
            }
            // Their lowest bits are those of signs that are allowed.
            for (char sign : "0139hics,".toCharArray()) {
                signBehind(one[0], (char) (sign + 256), false);
                signBehind(one[0], (char) (sign + 0x8000), false);
            }
        }
    }

    private static void signBehind(String begun, char sign, boolean isAllowed) {
        ShirtButtons x = new ShirtButtons();
        Check.write(x, begun + sign);
        int answer = x.read();
        String what = "read() of \"" + begun + "\" and (char) " + (int) sign;
        if (!isAllowed) {
            due(what, answer, -100 - begun.length());
        } else if (Character.isDigit(sign) && begun.length() > 1 && !begun.endsWith(",")) {
            due(what, answer, begun.contains(",") ? 2 : 1);
        } else {
            due(what + ", too early", answer, -101 - begun.length());
        }
    }

    private static void faultsFarBehind() {
        String fourteen = Check.like("1h1", 14) + ",";
        bad(fourteen + "1h1x", 59);
        bad(fourteen + "1h1h", 59);
        bad(fourteen + "1h0", 58);
        bad(fourteen + "1x1", 57);
        bad(fourteen + "5h1", 56);
        bad(fourteen + ",", 56);
        bad(Check.like("1h1", 8) + "x" + Check.like("1h1", 3), 31);
        // Of two faults the first one counts.
        bad("1h31,5h1", 3);
        bad("1h9i,0h0", 4);
    }

    private static void fullTexts() {
        reads(Check.like("1h1", 15), NO_FAULT, 15);
        ShirtButtons x = reads(Check.like("1h1", 14) + ",1h10", NO_FAULT, 15);
        buttonIs(x, 14, 1, 10);
        x = reads(Check.like("1h1i2c3s4", 6), NO_FAULT, 6);
        buttonIs(x, 5, 1, 1, 2, 3, 4);
    }

    /** "At most 40 buttons come"; "FULL if there would be more than 40" */
    private static void atMost40() {
        int[][] cases = {{39, 1, 1}, {39, 2, FULL}, {40, 1, FULL}, {40, 15, FULL}, {25, 15, 15}, {26, 15, FULL},
            {26, 14, 14}, {38, 2, 2}, {38, 3, FULL}};
        for (int[] one : cases) {
            ShirtButtons x = new ShirtButtons();
            Check.bringLike(x, "1h9", one[0]);
            int states = x.total(22);
            Check.write(x, Check.like("2h9", one[1]));
            due(one[1] + " more than " + one[0], x.read(), one[2]);
            due("how many then", x.total(8), one[2] < 0 ? one[0] : one[0] + one[1]);
            due("the hopper then", x.total(9), one[2] < 0 ? one[0] : one[0] + one[1]);
            due("the length of the text", x.total(23), 4 * one[1] - 1);
            if (one[2] < 0) {
                due("nothing is recorded", x.total(22), states);
                due("no button came", x.button(one[0], 0), UNKNOWN);
            }
        }
        ShirtButtons x = new ShirtButtons();
        Check.bringLike(x, "1h9", 40);
        x.sort(10);
        x.shirt(0, 9);
        Check.write(x, "1h9");
        due("those that have left the hopper count", x.read(), FULL);
        x.undo();
        x.undo();
        due("they count still", x.read(), FULL);
        x.undo();
        due("after undo there is room", x.read(), 1);
    }

    /** "At most 40 buttons come, numbered from 0" */
    private static void numberedFrom0() {
        ShirtButtons x = new ShirtButtons();
        due("button(0, 0) of a new one", x.button(0, 0), UNKNOWN);
        Check.bring(x, "1h1");
        due("button(0, 0)", x.button(0, 0), 1);
        due("button(1, 0)", x.button(1, 0), UNKNOWN);
        due("button(-1, 0)", x.button(-1, 0), UNKNOWN);
        Check.bringLike(x, "2h2", 38);
        due("button(38, 0)", x.button(38, 0), 2);
        due("button(39, 0)", x.button(39, 0), UNKNOWN);
        Check.bring(x, "3h3");
        due("button(39, 0)", x.button(39, 0), 3);
        due("button(40, 0)", x.button(40, 0), UNKNOWN);
        due("polish(39)", x.polish(39), 1);
        due("polish(40)", x.polish(40), UNKNOWN);
        due("goesTo(39)", x.goesTo(39), 5);
        due("goesTo(40)", x.goesTo(40), UNKNOWN);
    }

    /** "-100 minus the fault of the text if it has one (this is an error); FULL ..." */
    private static void fullOrFault() {
        ShirtButtons x = new ShirtButtons();
        Check.bringLike(x, "1h9", 40);
        Check.write(x, "1h9,1h");
        due("a fault, and too many", x.read(), -106);
        Check.write(x, "");
        due("the empty text, and no room", x.read(), -100);
        Check.write(x, "x");
        due("a fault at the first, and no room", x.read(), -100);
        Check.write(x, "1h9");
        due("no fault, and too many", x.read(), FULL);
    }

    /** "those that come go to its end" */
    private static void toTheEndOfTheHopper() {
        ShirtButtons x = Check.with("1h9,1h8", "1h7");
        check.hopperIs("come", x, 0, 1, 2);
        x.sort(1);
        Check.bring(x, "1h6,1h5");
        check.hopperIs("come later", x, 1, 2, 3, 4);
        x.pour(0);
        Check.bring(x, "1h4");
        check.hopperIs("come behind the poured", x, 1, 2, 3, 4, 0, 5);
    }

    /** "The buttons of the text, which stays" */
    private static void textStays() {
        ShirtButtons x = new ShirtButtons();
        Check.write(x, "1h9,2h30");
        due("read()", x.read(), 2);
        due("the length", x.total(23), 8);
        due("read() again", x.read(), 2);
        buttonIs(x, 3, 2, 30);
        due("type behind it", x.type('c'), 9);
        due("read() of what ends too early", x.read(), -109);
        due("the length stays", x.total(23), 9);
        due("type behind it", x.type('7'), 10);
        due("read() of both", x.read(), 2);
        buttonIs(x, 5, 2, 30, 0, 7, 0);
    }
}
