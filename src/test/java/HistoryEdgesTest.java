import java.util.function.Consumer;
import java.util.function.Supplier;

/** The boundaries that 'HISTORY' names: what is recorded, how much of it, and what undo and restore bring back. */
public final class HistoryEdgesTest {
    private static final int NONE = ShirtButtons.NONE;
    private static final int SPREAD = 7;

    private static final Check check = new Check("HistoryEdgesTest");
    private static final Twins twins = new Twins(check);

    public static void main(String[] args) {
        atMost4();
        oldestIsDropped();
        undoNone();
        undoRemoves();
        changesAreRecorded();
        answersOf0AreRecorded();
        othersAreNotRecorded();
        noSnapshotAtFirst();
        snapshotOfNone();
        inPlaceOfAnEarlierOne();
        snapshotStays();
        snapshotIsNotUndone();
        historyIsNotRestored();
        textIsNotBroughtBack();
        settingsAreBroughtBack();
        countsAreBroughtBack();
        placesAreBroughtBack();
        fewerButtonsAreBroughtBack();
        restoreIsUndone();
        fullMachines();
        check.end();
    }

    private static void due(String what, int got, int want) {
        check.due(what, got, want);
    }

    /** A machine that has made so many changes: SPREAD became 3, 4 and so on. */
    private static ShirtButtons changed(int times) {
        ShirtButtons x = new ShirtButtons();
        for (int i = 0; i < times; i++) {
            x.set(SPREAD, 3 + i);
        }
        return x;
    }

    /** "A history of at most 4 states is kept" */
    private static void atMost4() {
        for (int times = 0; times <= 7; times++) {
            ShirtButtons x = changed(times);
            int kept = Math.min(4, times);
            due("states after " + times, x.total(22), kept);
            for (int left = kept - 1; left >= 0; left--) {
                due("undo after " + times, x.undo(), left);
                due("states left", x.total(22), left);
            }
            due("undo of all after " + times, x.undo(), NONE);
            due("SPREAD then", x.total(SPREAD), 2 + times - kept);
        }
    }

    /** "if there are 4 already, the oldest one is dropped" */
    private static void oldestIsDropped() {
        ShirtButtons x = changed(5);
        int[] spreads = {6, 5, 4, 3};
        for (int spread : spreads) {
            x.undo();
            due("back to", x.total(SPREAD), spread);
        }
        due("the fifth state was dropped", x.undo(), NONE);
        due("SPREAD stays", x.total(SPREAD), 3);
        x = changed(4);
        x.undo();
        x.set(SPREAD, 9);
        due("undo made room for one", x.total(22), 4);
        for (int spread = 5; spread >= 2; spread--) {
            x.undo();
            due("none was dropped", x.total(SPREAD), spread);
        }
        due("these were all", x.undo(), NONE);
    }

    /** "NONE if the history is empty" */
    private static void undoNone() {
        ShirtButtons x = new ShirtButtons();
        due("undo() of a new one", x.undo(), NONE);
        due("undo() again", x.undo(), NONE);
        due("states", x.total(22), 0);
        x.type('1');
        x.keep();
        due("undo() after what isn't a change", x.undo(), NONE);
        x.set(SPREAD, 5);
        due("undo() of one", x.undo(), 0);
        due("undo() of none", x.undo(), NONE);
        due("SPREAD stays", x.total(SPREAD), 2);
    }

    /** "Restores the latest state of the history, and removes it from there" */
    private static void undoRemoves() {
        ShirtButtons x = changed(2);
        due("undo()", x.undo(), 1);
        due("SPREAD", x.total(SPREAD), 3);
        x.set(SPREAD, 8);
        due("states", x.total(22), 2);
        due("undo()", x.undo(), 1);
        due("SPREAD", x.total(SPREAD), 3);
        due("undo()", x.undo(), 0);
        due("SPREAD", x.total(SPREAD), 2);
        due("undo isn't undone", x.undo(), NONE);
    }

    /** A machine with a text and a snapshot, in which so many changes were made (at most 6). */
    private static ShirtButtons after(int changes) {
        ShirtButtons x = new ShirtButtons();
        x.keep();
        if (changes > 0) {
            Check.bring(x, "1h9i9,1h9s3,1h9s4,1h9c9,1h30,1h10,2h11");
        }
        if (changes > 1) {
            x.sort(3);
        }
        if (changes > 2) {
            x.set(SPREAD, 5);
        }
        if (changes > 3) {
            x.polish(1);
        }
        if (changes > 4) {
            x.sort(2);
        }
        if (changes > 5) {
            x.shirt(0, 1);
        }
        Check.write(x, "1h9,1h8");
        return x;
    }

    /** "records the state before it; if there are 4 already, the oldest one is dropped" */
    private static void changesAreRecorded() {
        for (int changes = 0; changes <= 6; changes++) {
            int made = changes;
            due("states after " + made, after(made).total(22), Math.min(4, made));
            eachChange("after " + made, () -> after(made));
        }
    }

    /** Each change that is possible there. */
    private static void eachChange(String where, Supplier<ShirtButtons> make) {
        ShirtButtons x = make.get();
        int waiting = x.total(9);
        int held = x.total(11);
        int inBin = x.bin(0, 0);
        twins.recorded(where + ": read()", make, y -> y.read(), 2);
        twins.recorded(where + ": set(6, 7)", make, y -> y.set(6, 7), 10);
        twins.recorded(where + ": restore()", make, y -> y.restore(), 0);
        if (waiting > 0) {
            twins.recorded(where + ": sort(1)", make, y -> y.sort(1), 1);
            twins.recorded(where + ": sort(99)", make, y -> y.sort(99), waiting);
        }
        if (held > 0) {
            twins.recorded(where + ": letGo()", make, y -> y.letGo(), held);
        }
        if (inBin > 0) {
            int first = x.inBin(0, 0);
            int shine = x.button(first, 4);
            twins.recorded(where + ": pour(0)", make, y -> y.pour(0), inBin);
            twins.recorded(where + ": shirt(0, 1)", make, y -> y.shirt(0, 1), shine);
            twins.recorded(where + ": polish(" + first + ")", make, y -> y.polish(first), shine + 1);
        }
    }

    /** 0 is an answer, and neither an error nor NONE. */
    private static void answersOf0AreRecorded() {
        Supplier<ShirtButtons> make = () -> {
            ShirtButtons x = new ShirtButtons();
            x.keep();
            Check.bring(x, "1h9");
            x.set(3, 0);
            x.sort(1);
            return x;
        };
        twins.recorded("a shirt worth 0", make, x -> x.shirt(0, 1), 0);
        twins.recorded("set with 0 before", make, x -> x.set(3, 5), 0);
        twins.recorded("restore of no buttons", make, x -> x.restore(), 0);
    }

    private static void othersAreNotRecorded() {
        String[] names = {"type", "clearText", "keep", "undo", "button", "inBin", "bin", "total", "goesTo",
            "reason", "leastSpread", "shirts", "ifMesh"};
        for (int kind = 0; kind < names.length; kind++) {
            ShirtButtons x = Check.with("1h9,1h9i9");
            x.undo();
            x.clearText();
            due("states", x.total(22), 0);
            other(x, kind);
            due("states after " + names[kind], x.total(22), 0);
            ShirtButtons full = after(6);
            other(full, kind);
            due("states of the full history after " + names[kind], full.total(22), kind == 3 ? 3 : 4);
        }
    }

    private static void other(ShirtButtons x, int kind) {
        switch (kind) {
            case 0 -> x.type('1');
            case 1 -> x.clearText();
            case 2 -> x.keep();
            case 3 -> x.undo();
            case 4 -> x.button(0, 0);
            case 5 -> x.inBin(0, 0);
            case 6 -> x.bin(0, 0);
            case 7 -> x.total(0);
            case 8 -> x.goesTo(6);
            case 9 -> x.reason(0, 1);
            case 10 -> x.leastSpread(0, 1);
            case 11 -> x.shirts(1);
            default -> x.ifMesh(0, 9, 5);
        }
    }

    /** "There is one snapshot, empty at first" */
    private static void noSnapshotAtFirst() {
        ShirtButtons x = new ShirtButtons();
        due("restore() of a new one", x.restore(), NONE);
        Check.bring(x, "1h9");
        due("restore() without a snapshot", x.restore(), NONE);
        due("the button stays", x.total(8), 1);
        due("it isn't recorded", x.total(22), 1);
        x.undo();
        due("undo takes no snapshot", x.restore(), NONE);
    }

    private static void snapshotOfNone() {
        ShirtButtons x = new ShirtButtons();
        due("keep() of none", x.keep(), 0);
        due("restore() of none at once", x.restore(), 0);
        due("it is recorded", x.total(22), 1);
        Check.bring(x, "1h9");
        due("restore() of none", x.restore(), 0);
        due("no buttons", x.total(8), 0);
        due("the hopper", x.total(9), 0);
        due("button(0, 0)", x.button(0, 0), ShirtButtons.UNKNOWN);
        Check.bringLike(x, "1h9", 40);
        due("keep() of 40", x.keep(), 40);
        x.restore();
        due("40 are restored", x.total(9), 40);
    }

    /** "Takes a snapshot of the state, in place of an earlier one" */
    private static void inPlaceOfAnEarlierOne() {
        ShirtButtons x = new ShirtButtons();
        Check.bring(x, "1h9");
        due("keep() of one", x.keep(), 1);
        Check.bring(x, "1h9,1h9");
        due("keep() of three", x.keep(), 3);
        due("keep() of three again", x.keep(), 3);
        x.undo();
        due("undo", x.total(8), 1);
        due("restore()", x.restore(), 3);
        x.undo();
        due("keep() of one", x.keep(), 1);
        Check.bring(x, "1h9");
        due("restore()", x.restore(), 1);
    }

    /** "Restores the state of the snapshot, which stays" */
    private static void snapshotStays() {
        ShirtButtons x = Check.with("1h9s1,2h10s2");
        x.sort(1);
        x.keep();
        String kept = Twins.state(x);
        for (int i = 0; i < 6; i++) {
            x.sort(1);
            x.polish(0);
            x.shirt(0, 1);
            x.set(SPREAD, 9);
            Check.bring(x, "3h3");
            due("restore() " + i, x.restore(), 2);
            check.due("restored " + i, Twins.state(x), kept);
        }
    }

    /** "The state is everything except the text, the history and the snapshot": undo leaves the snapshot. */
    private static void snapshotIsNotUndone() {
        ShirtButtons x = new ShirtButtons();
        x.set(SPREAD, 5);
        x.keep();
        due("undo", x.undo(), 0);
        due("undo brings SPREAD back", x.total(SPREAD), 2);
        due("the snapshot is there", x.restore(), 0);
        due("SPREAD of the snapshot", x.total(SPREAD), 5);
    }

    private static void historyIsNotRestored() {
        ShirtButtons x = new ShirtButtons();
        x.keep();
        x.set(SPREAD, 3);
        x.set(SPREAD, 4);
        due("restore()", x.restore(), 0);
        due("states", x.total(22), 3);
        int[] spreads = {4, 3, 2};
        for (int i = 0; i < spreads.length; i++) {
            due("undo", x.undo(), 2 - i);
            due("SPREAD", x.total(SPREAD), spreads[i]);
        }
        x = changed(4);
        x.keep();
        x.set(SPREAD, 9);
        x.restore();
        due("a full history stays full", x.total(22), 4);
        spreads = new int[] {9, 6, 5, 4};
        for (int i = 0; i < spreads.length; i++) {
            due("undo", x.undo(), 3 - i);
            due("SPREAD", x.total(SPREAD), spreads[i]);
        }
        due("restore dropped the oldest", x.undo(), NONE);
    }

    private static void textIsNotBroughtBack() {
        ShirtButtons x = new ShirtButtons();
        Check.write(x, "1h9");
        x.read();
        x.keep();
        x.type('i');
        x.type('9');
        due("undo", x.undo(), 0);
        due("length after undo", x.total(23), 5);
        due("restore()", x.restore(), 1);
        due("length after restore", x.total(23), 5);
        due("read()", x.read(), 1);
        due("the text that stayed", x.button(1, 2), 9);
        due("clearText()", x.clearText(), 5);
        due("undo", x.undo(), 1);
        due("undo brings no text back", x.total(23), 0);
        due("restore()", x.restore(), 1);
        due("restore brings no text back", x.total(23), 0);
    }

    private static void settingsAreBroughtBack() {
        int[] others = {9, 16, 23, 5, 7, 4, 11, 3};
        for (int s = 0; s < 8; s++) {
            ShirtButtons x = new ShirtButtons();
            x.keep();
            int before = x.set(s, others[s]);
            x.undo();
            due("undo of setting " + s, x.total(s), before);
            x.set(s, others[s]);
            x.restore();
            due("restore of setting " + s, x.total(s), before);
            x.undo();
            due("undo of restore of setting " + s, x.total(s), others[s]);
        }
    }

    /** What one change does to all that can be asked for is undone, and is restored. */
    private static void broughtBack(String what, ShirtButtons x, Consumer<ShirtButtons> change) {
        x.keep();
        String before = Twins.state(x);
        change.accept(x);
        String after = Twins.state(x);
        check.due(what + " changes something", after.equals(before), false);
        x.undo();
        check.due(what + " is undone", Twins.state(x), before);
        change.accept(x);
        check.due(what + " once more is the same", Twins.state(x), after);
        x.restore();
        check.due(what + " is restored", Twins.state(x), before);
        x.undo();
        check.due(what + " is there again", Twins.state(x), after);
    }

    private static void countsAreBroughtBack() {
        broughtBack("a shirt", Check.sorted("1h9s3,1h9s4"), x -> x.shirt(0, 2));
        broughtBack("a second shirt", Twins.then(() -> Check.sorted("1h9s3,1h9s4"), x -> x.shirt(0, 1)).get(),
            x -> x.shirt(0, 1));
        ShirtButtons full = Check.withSettings(6, 0);
        Check.bring(full, "1h10,2h9");
        broughtBack("going back, rubbed", full, x -> x.sort(5));
        broughtBack("polishing", Check.with("1h9c3s3"), x -> x.polish(0));
    }

    private static void placesAreBroughtBack() {
        broughtBack("sorting to all places", Check.with("1h9i9,1h9c9,1h30,1h9,2h10"), x -> x.sort(4));
        broughtBack("the magnet that is full", Check.with("1h9i9,1h9i9,1h9i9,1h9"), x -> x.sort(3));
        broughtBack("letting go", Check.sorted("1h9i9,1h9i9"), x -> x.letGo());
        broughtBack("pouring", Twins.then(() -> Check.sorted("1h9s9,1h9s1,2h9"), x -> Check.bring(x, "1h9")).get(),
            x -> x.pour(0));
    }

    private static void fewerButtonsAreBroughtBack() {
        broughtBack("reading", Check.sorted("1h9"), x -> Check.bring(x, "2h9i9c9s9,1h3"));
        ShirtButtons x = Check.with("1h10c3");
        x.sort(1);
        x.polish(0);
        x.undo();
        x.undo();
        x.undo();
        due("no buttons", x.total(8), 0);
        Check.bring(x, "2h8s5");
        int[] wants = {2, 8, 0, 0, 5, 0, NONE, 0, NONE, 0};
        for (int what = 0; what < wants.length; what++) {
            due("a button that comes in place of an undone one, " + what, x.button(0, what), wants[what]);
        }
        x = new ShirtButtons();
        x.keep();
        Check.bring(x, "1h10i5c3s1");
        x.sort(1);
        x.shirt(0, 1);
        x.restore();
        Check.bring(x, "2h8s5");
        for (int what = 0; what < wants.length; what++) {
            due("a button that comes in place of a restored one, " + what, x.button(0, what), wants[what]);
        }
    }

    /** "Restores the state of the snapshot ... This is a change." */
    private static void restoreIsUndone() {
        ShirtButtons x = changed(3);
        x.keep();
        x.set(SPREAD, 8);
        due("states", x.total(22), 4);
        due("restore()", x.restore(), 0);
        due("states", x.total(22), 4);
        due("SPREAD", x.total(SPREAD), 5);
        due("undo()", x.undo(), 3);
        due("SPREAD", x.total(SPREAD), 8);
        due("undo()", x.undo(), 2);
        due("SPREAD", x.total(SPREAD), 5);
        x = new ShirtButtons();
        x.keep();
        for (int i = 1; i <= 6; i++) {
            due("restore() of what is there already", x.restore(), 0);
            due("it is recorded all the same", x.total(22), Math.min(4, i));
        }
    }

    private static ShirtButtons fullHopper() {
        ShirtButtons x = Check.withSettings(6, 20);
        Check.bringLike(x, "1h9", 40);
        x.keep();
        return x;
    }

    private static void fullMachines() {
        String before = Twins.state(fullHopper());
        ShirtButtons x = fullHopper();
        x.sort(99);
        due("in the bin", x.bin(0, 0), 20);
        x.pour(0);
        x.undo();
        due("in the bin again", x.bin(0, 0), 20);
        x.undo();
        check.due("40 in the hopper again", Twins.state(x), before);
        x = fullHopper();
        x.sort(3);
        x.restore();
        check.due("40 in the hopper once more", Twins.state(x), before);
    }
}
