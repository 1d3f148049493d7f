import java.util.function.Supplier;
import java.util.function.ToIntFunction;

/** The boundaries that 'ERRORS' names: which of several errors is told, and that an error or NONE changes nothing. */
public final class ErrorEdgesTest {
    private static final int UNKNOWN = ShirtButtons.UNKNOWN;
    private static final int OUT_OF_RANGE = ShirtButtons.OUT_OF_RANGE;
    private static final int FULL = ShirtButtons.FULL;
    private static final int NOT_POSSIBLE = ShirtButtons.NOT_POSSIBLE;
    private static final int NONE = ShirtButtons.NONE;
    private static final int TOO_FEW = -11;
    private static final int NOT_ALIKE = -12;

    private static final int[] WILD = {Integer.MIN_VALUE, Integer.MIN_VALUE + 1, -65536, -256, -101, -10, -5, -2, 100,
        255, 256, 65536, Integer.MAX_VALUE - 1, Integer.MAX_VALUE};

    private static final Check check = new Check("ErrorEdgesTest");
    private static final Twins twins = new Twins(check);

    public static void main(String[] args) {
        readRefused();
        sortRefused();
        letGoRefused();
        pourRefused();
        shirtRefused();
        polishRefused();
        setRefused();
        typeRefused();
        historyRefused();
        questionsRefused();
        questionsAnswered();
        firstOfSeveralErrors();
        farFromAnyRange();
        emptyMachine();
        check.end();
    }

    /** Buttons 0 to 6 at most places, a history of 4 states, a snapshot of 2 buttons, and a text of one. */
    private static ShirtButtons busy() {
        ShirtButtons x = Check.with("1h9s9,1h9s3");
        x.keep();
        x.sort(2);
        Check.bring(x, "1h9i7,1h9c9,2h9s4,1h30,3h9");
        x.shirt(0, 1);
        x.sort(4);
        x.polish(2);
        Check.write(x, "4h8c7");
        return x;
    }

    private static ShirtButtons busyWith(String text) {
        ShirtButtons x = busy();
        Check.write(x, text);
        return x;
    }

    private static void refused(String call, ToIntFunction<ShirtButtons> made, int want) {
        twins.unchanged(call, ErrorEdgesTest::busy, made, want);
    }

    private static void refused(String call, Supplier<ShirtButtons> make, ToIntFunction<ShirtButtons> made, int want) {
        twins.unchanged(call, make, made, want);
    }

    /** 40 buttons but for so many, with a text of this. */
    private static Supplier<ShirtButtons> fullBut(int fewer, String text) {
        return () -> {
            ShirtButtons x = new ShirtButtons();
            x.keep();
            Check.bringLike(x, "1h9", 40 - fewer);
            Check.write(x, text);
            return x;
        };
    }

    private static void readRefused() {
        String[] texts = {"", "1", "5", "1h", "1h0", "1h31", "1h9,", "1h9i", "2h9c3i3", "1h9,1h9,1h9x"};
        int[] faults = {0, 1, 0, 2, 2, 3, 4, 4, 5, 11};
        for (int i = 0; i < texts.length; i++) {
            String text = texts[i];
            refused("read() of \"" + text + "\"", () -> busyWith(text), x -> x.read(), -100 - faults[i]);
        }
        refused("read() of the 41st", fullBut(0, "1h9"), x -> x.read(), FULL);
        refused("read() of the 40th and the 41st", fullBut(1, "1h9,1h9"), x -> x.read(), FULL);
        refused("read() of a fault when all have come", fullBut(0, "1h9,"), x -> x.read(), -104);
    }

    private static void sortRefused() {
        for (int wrong : new int[] {-1, 0, 100}) {
            refused("sort(" + wrong + ")", x -> x.sort(wrong), OUT_OF_RANGE);
        }
        Supplier<ShirtButtons> nothingWaits = Twins.then(ErrorEdgesTest::busy, x -> x.sort(99));
        refused("sort(1) of nothing", nothingWaits, x -> x.sort(1), NONE);
        refused("sort(99) of nothing", nothingWaits, x -> x.sort(99), NONE);
        refused("sort(100) of nothing", nothingWaits, x -> x.sort(100), OUT_OF_RANGE);
        refused("sort(0) of nothing", nothingWaits, x -> x.sort(0), OUT_OF_RANGE);
    }

    private static void letGoRefused() {
        Supplier<ShirtButtons> noneHeld = Twins.then(ErrorEdgesTest::busy, x -> x.letGo());
        refused("letGo() of none", noneHeld, x -> x.letGo(), NONE);
        refused("letGo() of a new one", ShirtButtons::new, x -> x.letGo(), NONE);
    }

    private static void pourRefused() {
        refused("pour(-1)", x -> x.pour(-1), UNKNOWN);
        refused("pour(12)", x -> x.pour(12), UNKNOWN);
        refused("pour(4), empty", x -> x.pour(4), NONE);
        refused("pour(11), empty", x -> x.pour(11), NONE);
    }

    private static Supplier<ShirtButtons> unlike() {
        return Twins.then(ErrorEdgesTest::busy, x -> {
            Check.bring(x, "3h9s3,3h9s8");
            x.sort(3);
        });
    }

    private static void shirtRefused() {
        refused("shirt(-1, 1)", x -> x.shirt(-1, 1), UNKNOWN);
        refused("shirt(12, 1)", x -> x.shirt(12, 1), UNKNOWN);
        refused("shirt(1, 0)", x -> x.shirt(1, 0), OUT_OF_RANGE);
        refused("shirt(1, 10)", x -> x.shirt(1, 10), OUT_OF_RANGE);
        refused("shirt(1, 2), one is there", x -> x.shirt(1, 2), TOO_FEW);
        refused("shirt(4, 1), empty", x -> x.shirt(4, 1), TOO_FEW);
        refused("shirt(2, 3), unlike", unlike(), x -> x.shirt(2, 3), NOT_ALIKE);
        refused("shirt(2, 2), unlike", unlike(), x -> x.shirt(2, 2), NOT_ALIKE);
        refused("shirt(2, 4), unlike and too few", unlike(), x -> x.shirt(2, 4), TOO_FEW);
    }

    private static void polishRefused() {
        refused("polish(-1)", x -> x.polish(-1), UNKNOWN);
        refused("polish(7)", x -> x.polish(7), UNKNOWN);
        refused("polish of shine 9", x -> x.polish(0), NOT_POSSIBLE);
        refused("polish on a shirt", x -> x.polish(1), NOT_POSSIBLE);
    }

    private static void setRefused() {
        refused("set(-1, 1)", x -> x.set(-1, 1), UNKNOWN);
        refused("set(8, 1)", x -> x.set(8, 1), UNKNOWN);
        int[] lowest = {1, 1, 1, 0, 1, 1, 0, 0};
        int[] highest = {30, 30, 30, 9, 10, 9, 20, 9};
        int[] first = {10, 15, 22, 4, 6, 3, 10, 2};
        for (int s = 0; s < 8; s++) {
            int setting = s;
            refused("set(" + s + ") below", x -> x.set(setting, lowest[setting] - 1), OUT_OF_RANGE);
            refused("set(" + s + ") above", x -> x.set(setting, highest[setting] + 1), OUT_OF_RANGE);
            refused("set(" + s + ") as it is", x -> x.set(setting, first[setting]), NONE);
        }
        refused("set(0, 16)", x -> x.set(0, 16), NOT_POSSIBLE);
        refused("set(1, 9)", x -> x.set(1, 9), NOT_POSSIBLE);
        refused("set(1, 23)", x -> x.set(1, 23), NOT_POSSIBLE);
        refused("set(2, 14)", x -> x.set(2, 14), NOT_POSSIBLE);
    }

    private static void typeRefused() {
        Supplier<ShirtButtons> full = () -> busyWith(Check.like("1h9", 14) + ",1h30");
        refused("type the 61st", full, x -> x.type('i'), FULL);
        refused("type the 61st, and more", full, x -> Math.min(x.type(','), x.type('1')), FULL);
    }

    private static void historyRefused() {
        Supplier<ShirtButtons> noHistory = Twins.then(ErrorEdgesTest::busy, x -> {
            while (x.total(22) > 0) {
                x.undo();
            }
        });
        refused("undo() of none", noHistory, x -> x.undo(), NONE);
        refused("undo() of a new one", ShirtButtons::new, x -> x.undo(), NONE);
        Supplier<ShirtButtons> noSnapshot = () -> {
            ShirtButtons x = Check.sorted("1h9,1h10i9");
            Check.write(x, "1h9");
            return x;
        };
        refused("restore() without a snapshot", noSnapshot, x -> x.restore(), NONE);
        refused("restore() of a new one", ShirtButtons::new, x -> x.restore(), NONE);
    }

    private static void questionsRefused() {
        refused("button(-1, 0)", x -> x.button(-1, 0), UNKNOWN);
        refused("button(7, 0)", x -> x.button(7, 0), UNKNOWN);
        refused("button(0, -1)", x -> x.button(0, -1), OUT_OF_RANGE);
        refused("button(0, 10)", x -> x.button(0, 10), OUT_OF_RANGE);
        refused("button(1, 6), on a shirt", x -> x.button(1, 6), NONE);
        refused("inBin(12, 0)", x -> x.inBin(12, 0), UNKNOWN);
        refused("inBin(1, -1)", x -> x.inBin(1, -1), OUT_OF_RANGE);
        refused("inBin(1, 1), one is there", x -> x.inBin(1, 1), NONE);
        refused("bin(12, 0)", x -> x.bin(12, 0), UNKNOWN);
        refused("bin(0, 5)", x -> x.bin(0, 5), OUT_OF_RANGE);
        refused("total(24)", x -> x.total(24), OUT_OF_RANGE);
        refused("goesTo(7)", x -> x.goesTo(7), UNKNOWN);
        refused("goesTo(0), in a bin", x -> x.goesTo(0), NOT_POSSIBLE);
        refused("reason(12, 1)", x -> x.reason(12, 1), UNKNOWN);
        refused("reason(0, 10)", x -> x.reason(0, 10), OUT_OF_RANGE);
        refused("leastSpread(12, 1)", x -> x.leastSpread(12, 1), UNKNOWN);
        refused("leastSpread(0, 10)", x -> x.leastSpread(0, 10), OUT_OF_RANGE);
        refused("leastSpread(1, 2)", x -> x.leastSpread(1, 2), NONE);
        refused("shirts(10)", x -> x.shirts(10), OUT_OF_RANGE);
        refused("ifMesh(3, 9, 0)", x -> x.ifMesh(3, 9, 0), UNKNOWN);
        refused("ifMesh(0, 31, 0)", x -> x.ifMesh(0, 31, 0), OUT_OF_RANGE);
        refused("ifMesh(0, 9, 7)", x -> x.ifMesh(0, 9, 7), OUT_OF_RANGE);
        refused("ifMesh(0, 16, 0)", x -> x.ifMesh(0, 16, 0), NOT_POSSIBLE);
    }

    /** "what would be; nothing changes", and the same of what there is */
    private static void questionsAnswered() {
        int[] places = {5, 6, 2, 1, 5, 4, 0};
        check.placesAre("busy", busy(), places);
        refused("button(6, 7)", x -> x.button(6, 7), 0);
        refused("inBin(0, 0)", x -> x.inBin(0, 0), 0);
        refused("bin(0, 2)", x -> x.bin(0, 2), 9);
        refused("total(8)", x -> x.total(8), 7);
        refused("total(22)", x -> x.total(22), 4);
        refused("goesTo(6), to a bin", x -> x.goesTo(6), 5);
        refused("reason(1, 1)", x -> x.reason(1, 1), 0);
        refused("leastSpread(1, 1)", x -> x.leastSpread(1, 1), 0);
        refused("shirts(1)", x -> x.shirts(1), 2);
        refused("ifMesh(0, 9, 5)", x -> x.ifMesh(0, 9, 5), 3);
        refused("ifMesh(2, 30, 4)", x -> x.ifMesh(2, 30, 4), 1);
    }

    private static void due(String what, int got, int want) {
        check.due(what, got, want);
    }

    /** "If several errors apply, the one that stands first in the @return line is returned" */
    private static void firstOfSeveralErrors() {
        ShirtButtons x = new ShirtButtons();
        due("sort(0): range, and empty", x.sort(0), OUT_OF_RANGE);
        due("sort(100): range, and empty", x.sort(100), OUT_OF_RANGE);
        due("shirt: bin, range and too few", x.shirt(12, 0), UNKNOWN);
        due("shirt: bin, range and too few", x.shirt(-1, 10), UNKNOWN);
        due("shirt: range and too few", x.shirt(0, 10), OUT_OF_RANGE);
        due("shirt: range and too few", x.shirt(0, 0), OUT_OF_RANGE);
        due("set: setting and value", x.set(8, 31), UNKNOWN);
        due("set: setting and value", x.set(-1, -1), UNKNOWN);
        due("set: value, and above the next one", x.set(0, 31), OUT_OF_RANGE);
        due("set: value, and below the one before", x.set(1, 0), OUT_OF_RANGE);
        due("set: value, and below the one before", x.set(2, 0), OUT_OF_RANGE);
        due("button: button and what", x.button(0, 10), UNKNOWN);
        due("button: button and what", x.button(-1, -1), UNKNOWN);
        due("inBin: bin and rank", x.inBin(12, -1), UNKNOWN);
        due("inBin: bin, and not so many", x.inBin(12, 3), UNKNOWN);
        due("inBin: rank, and not so many", x.inBin(0, -1), OUT_OF_RANGE);
        due("bin: bin and what", x.bin(12, 5), UNKNOWN);
        due("bin: bin and what", x.bin(-1, -1), UNKNOWN);
        due("reason: bin and many", x.reason(12, 10), UNKNOWN);
        due("reason: bin and many", x.reason(-1, 0), UNKNOWN);
        due("leastSpread: bin and many", x.leastSpread(12, 10), UNKNOWN);
        due("leastSpread: many, and fewer in the bin", x.leastSpread(0, 10), OUT_OF_RANGE);
        due("ifMesh: mesh and value", x.ifMesh(3, 31, 0), UNKNOWN);
        due("ifMesh: mesh and what", x.ifMesh(-1, 9, 7), UNKNOWN);
        due("ifMesh: value, and above the next one", x.ifMesh(0, 31, 0), OUT_OF_RANGE);
        due("ifMesh: what, and above the next one", x.ifMesh(0, 16, 7), OUT_OF_RANGE);
        due("ifMesh: what, and below the one before", x.ifMesh(2, 14, -1), OUT_OF_RANGE);
        due("pour: bin, and empty", x.pour(12), UNKNOWN);
        due("none of them is recorded", x.total(22), 0);
    }

    private static void farFromAnyRange() {
        String before = Twins.state(busy());
        for (int wild : WILD) {
            ShirtButtons x = busy();
            if (wild < 1 || wild > 99) {
                due("sort(" + wild + ")", x.sort(wild), OUT_OF_RANGE);
            }
            due("pour(" + wild + ")", x.pour(wild), UNKNOWN);
            due("shirt(" + wild + ", 1)", x.shirt(wild, 1), UNKNOWN);
            due("shirt(1, " + wild + ")", x.shirt(1, wild), OUT_OF_RANGE);
            due("polish(" + wild + ")", x.polish(wild), UNKNOWN);
            due("set(" + wild + ", 1)", x.set(wild, 1), UNKNOWN);
            due("set(3, " + wild + ")", x.set(3, wild), OUT_OF_RANGE);
            due("button(" + wild + ", 0)", x.button(wild, 0), UNKNOWN);
            due("button(0, " + wild + ")", x.button(0, wild), OUT_OF_RANGE);
            due("inBin(" + wild + ", 0)", x.inBin(wild, 0), UNKNOWN);
            due("inBin(0, " + wild + ")", x.inBin(0, wild), wild < 0 ? OUT_OF_RANGE : NONE);
            due("bin(" + wild + ", 0)", x.bin(wild, 0), UNKNOWN);
            due("bin(0, " + wild + ")", x.bin(0, wild), OUT_OF_RANGE);
            due("total(" + wild + ")", x.total(wild), OUT_OF_RANGE);
            due("goesTo(" + wild + ")", x.goesTo(wild), UNKNOWN);
            due("reason(" + wild + ", 1)", x.reason(wild, 1), UNKNOWN);
            due("reason(0, " + wild + ")", x.reason(0, wild), OUT_OF_RANGE);
            due("leastSpread(" + wild + ", 1)", x.leastSpread(wild, 1), UNKNOWN);
            due("leastSpread(0, " + wild + ")", x.leastSpread(0, wild), OUT_OF_RANGE);
            due("shirts(" + wild + ")", x.shirts(wild), OUT_OF_RANGE);
            due("ifMesh(" + wild + ", 9, 0)", x.ifMesh(wild, 9, 0), UNKNOWN);
            due("ifMesh(0, " + wild + ", 0)", x.ifMesh(0, wild, 0), OUT_OF_RANGE);
            due("ifMesh(0, 9, " + wild + ")", x.ifMesh(0, 9, wild), OUT_OF_RANGE);
            check.due("after " + wild + " all is as before", Twins.state(x), before);
        }
    }

    private static void emptyMachine() {
        Supplier<ShirtButtons> make = ShirtButtons::new;
        refused("new: read()", make, x -> x.read(), -100);
        refused("new: sort(1)", make, x -> x.sort(1), NONE);
        refused("new: pour(0)", make, x -> x.pour(0), NONE);
        refused("new: shirt(0, 1)", make, x -> x.shirt(0, 1), TOO_FEW);
        refused("new: polish(0)", make, x -> x.polish(0), UNKNOWN);
        refused("new: button(0, 0)", make, x -> x.button(0, 0), UNKNOWN);
        refused("new: inBin(0, 0)", make, x -> x.inBin(0, 0), NONE);
        refused("new: goesTo(0)", make, x -> x.goesTo(0), UNKNOWN);
        refused("new: leastSpread(0, 1)", make, x -> x.leastSpread(0, 1), NONE);
        refused("new: shirts(1)", make, x -> x.shirts(1), 0);
        refused("new: clearText()", make, x -> x.clearText(), 0);
    }
}
