/** For each promise: ordinary inputs, the edges that the document names, and wrong inputs. */
public final class PromisesTest {
    private static final int[] WILD = {Integer.MIN_VALUE, -100, -1, Integer.MAX_VALUE};
    private static final String FIFTEEN = "1h1,1h2,1h3,1h4,1h5,1h6,1h7,1h8,1h9,1h1,1h1,1h1,1h1,1h1,1h1";
    private static final Check check = new Check("PromisesTest");

    public static void main(String[] args) {
        newObject();
        read();
        readFaults();
        readFull();
        sortPlaces();
        sortClasses();
        sortMagnet();
        sortRubs();
        sortFullBin();
        sortWrong();
        letGo();
        pour();
        shirt();
        shirtWorth();
        shirtWrong();
        polish();
        set();
        setMeshes();
        type();
        clearText();
        undo();
        undoAll();
        undoDropsOldest();
        notRecorded();
        keep();
        restore();
        restoreFewer();
        button();
        inBin();
        bin();
        total();
        goesTo();
        reason();
        leastSpread();
        shirts();
        ifMesh();
        ifMeshMagnetAndBins();
        check.end();
    }

    private static void due(String what, int got, int want) {
        check.due(what, got, want);
    }

    private static void newObject() {
        ShirtButtons x = new ShirtButtons();
        check.totals("new", x, 0, 10, 15, 22, 4, 6, 3, 10, 2, 0, 0, 0, 0, 0, 0, 0, 0, 0, 0, 0, 0, 0, 0, 0, 0);
        for (int bin = 0; bin < 12; bin++) {
            due("new: bin " + bin, x.bin(bin, 0), 0);
        }
        due("new: button(0, 0)", x.button(0, 0), ShirtButtons.UNKNOWN);
        due("new: undo", x.undo(), ShirtButtons.NONE);
        due("new: restore", x.restore(), ShirtButtons.NONE);
    }

    private static void read() {
        ShirtButtons x = new ShirtButtons();
        Check.write(x, "2h17i3c2s9,4h30s1,1h1i9,3h20c0");
        due("read()", x.read(), 4);
        due("the text stays", x.total(23), 30);
        int[][] wants = {{2, 17, 3, 2, 9}, {4, 30, 0, 0, 1}, {1, 1, 9, 0, 0}, {3, 20, 0, 0, 0}};
        for (int b = 0; b < wants.length; b++) {
            for (int what = 0; what < 5; what++) {
                due("read button " + b + ", " + what, x.button(b, what), wants[b][what]);
            }
            due("read button is in the hopper", x.button(b, 5), 0);
        }
        check.hopperIs("read", x, 0, 1, 2, 3);
        due("read() again", x.read(), 4);
        due("those that come go to the end", x.button(4, 7), 4);
        check.totals("read twice", x, 8, 8, 8);
        due("read is a change", x.total(22), 2);
    }

    private static void fault(String text, int want) {
        ShirtButtons x = new ShirtButtons();
        Check.write(x, text);
        due("read() of \"" + text + "\"", x.read(), want < 0 ? 1 : -100 - want);
        due("a fault changes nothing", x.total(22), want < 0 ? 1 : 0);
    }

    private static void readFaults() {
        String[] good = {"1h1", "4h30", "1h10", "1h29", "2h3i0", "2h3c0s0", "2h3i1s2", "2h30i9c9s9"};
        for (String text : good) {
            fault(text, -1);
        }
        fault("", 0);
        fault("0h1", 0);
        fault("5h1", 0);
        fault("h1", 0);
        fault(",", 0);
        fault(" 1h1", 0);
        fault("1", 1);
        fault("11h1", 1);
        fault("1H1", 1);
        fault("1h", 2);
        fault("1h0", 2);
        fault("1h01", 2);
        fault("1hi", 2);
        fault("1h/", 2);
        fault("1h:", 2);
        fault("1h31", 3);
        fault("1h40", 3);
        fault("1h99", 3);
        fault("1h1:", 3);
        fault("1h9i:", 4);
        fault("1h9c/", 4);
        fault("1h100", 4);
        fault("1h300", 4);
        fault("1h9 ", 3);
        fault("1h9h", 3);
        fault("1h9i", 4);
        fault("1h9ic", 4);
        fault("1h9i12", 5);
        fault("1h9i00", 5);
        fault("1h9c1i1", 5);
        fault("1h9s1c1", 5);
        fault("1h9s1s1", 5);
        fault("1h9i1i1", 5);
        fault("1h9c", 4);
        fault("1h9s", 4);
        fault("1h9cs", 4);
        fault("1h9s,", 4);
        fault("1h9,", 4);
        fault("1h9,,", 4);
        fault("1h9,5", 4);
        fault("1h9,1h", 6);
        fault("1h9;1h9", 3);
        fault("1h9" + (char) 0, 3);
        fault((char) 0x131 + "h9", 0);
        fault("1h" + (char) 0x139, 2);
        fault(FIFTEEN + ",", 60);
    }

    private static void readFull() {
        ShirtButtons x = Check.with(FIFTEEN, FIFTEEN);
        Check.write(x, "1h1,1h1,1h1,1h1,1h1,1h1,1h1,1h1,1h1,1h1,1h1");
        due("read() of the 41st", x.read(), ShirtButtons.FULL);
        check.totals("full", x, 8, 30, 30);
        Check.write(x, "1h1,1h1,1h1,1h1,1h1,1h1,1h1,1h1,1h1,1h1,");
        due("a fault is told before FULL", x.read(), -140);
        Check.write(x, "1h1,1h1,1h1,1h1,1h1,1h1,1h1,1h1,1h1,1h1i9");
        due("read() of the 40th", x.read(), 10);
        Check.write(x, "1h1");
        due("read() of one more", x.read(), ShirtButtons.FULL);
        due("FULL isn't recorded", x.total(22), 3);
        due("the last button", x.button(39, 7), 39);
        due("no button 40", x.button(40, 7), ShirtButtons.UNKNOWN);
        due("chips of 40", x.total(21), 0);
        due("sort(40)", x.sort(40), 40);
        due("the rank of one in the bin", x.button(0, 7), ShirtButtons.NONE);
        due("the rank of the last that went back", x.button(38, 7), 28);
        due("pour(0)", x.pour(0), 10);
        due("the rank of the last that was poured", x.button(9, 7), 38);
        due("the last one is on the magnet", x.letGo(), 1);
    }

    private static void sortPlaces() {
        ShirtButtons x = Check.with("1h5i9c5,1h5c4,1h30i6,1h30i5,2h22,3h23");
        due("sort(4)", x.sort(4), 4);
        int[] places = {1, 5, 2, 4, 0, 0};
        for (int b = 0; b < places.length; b++) {
            due("sorted button " + b, x.button(b, 5), places[b]);
        }
        check.hopperIs("after sort(4)", x, 4, 5);
        due("how often the first was sorted", x.button(0, 9), 1);
        due("how often the last was sorted", x.button(5, 9), 0);
        due("sort(99)", x.sort(99), 2);
        due("size on the mesh 2", x.button(4, 5), 5);
        due("size above the mesh 2", x.button(5, 5), 4);
        due("rank of the last one that was taken", x.button(5, 7), ShirtButtons.NONE);
        due("sort is a change", x.total(22), 3);
        check.totals("sorted", x, 9, 0, 1, 1, 0, 2, 2, 0);
        check.totals("sorted", x, 18, 6, 0, 1);
    }

    private static void sortClasses() {
        ShirtButtons x = Check.sorted("1h9,2h10,3h11,4h15,1h16,2h22,3h21,4h1");
        int[] bins = {0, 1, 6, 7, 8, 9, 10, 3};
        int[] chips = {0, 1, 0, 1, 0, 1, 0, 0};
        for (int b = 0; b < bins.length; b++) {
            due("bin of " + b, x.button(b, 6), bins[b]);
            due("chips of " + b, x.button(b, 3), chips[b]);
        }
        due("rubbed", x.total(20), 3);
        x = Check.with("1h10,1h11");
        x.set(0, 10);
        x.set(1, 10);
        x.set(2, 10);
        x.sort(2);
        due("the least class of like meshes", x.button(0, 6), 0);
        due("above all of the like meshes", x.button(1, 5), 4);
    }

    private static void sortMagnet() {
        ShirtButtons x = Check.with("1h5i6,1h5i9,1h5i7,1h5i8");
        x.sort(2);
        check.totals("two held", x, 9, 2, 0, 2, 0);
        x.sort(1);
        check.totals("three let go", x, 9, 1, 0, 0, 3);
        x.sort(1);
        check.totals("one held", x, 9, 0, 0, 1, 3);
        x = Check.with("1h5i6,1h5i6,1h5i6");
        x.sort(2);
        x.set(5, 1);
        check.totals("HOLD made less lets nothing go", x, 11, 2, 0);
        x.sort(1);
        check.totals("the next one lets all go", x, 11, 0, 3);
        x = Check.with("1h5i9,1h5i5");
        x.set(4, 10);
        x.sort(1);
        due("no iron is PULL", x.button(0, 5), 5);
        x.set(4, 5);
        x.sort(1);
        due("iron just PULL", x.button(1, 5), 2);
    }

    private static void sortRubs() {
        ShirtButtons x = new ShirtButtons();
        x.set(3, 9);
        Check.bring(x, "1h10c9,1h10c8");
        x.sort(2);
        due("9 chips stay 9", x.button(0, 3), 9);
        due("8 chips become 9", x.button(1, 3), 9);
        due("both were rubbed", x.total(20), 2);
        x = Check.sorted("1h10c4");
        due("chips before rubbing count", x.button(0, 5), 5);
        due("chips after rubbing", x.button(0, 3), 5);
        x.pour(0);
        x.sort(1);
        due("sorted again: waste", x.button(0, 5), 1);
        due("waste isn't rubbed", x.button(0, 3), 5);
        due("sorted twice", x.button(0, 9), 2);
        x = Check.sorted("1h10i6,1h15i6");
        due("the magnet's aren't rubbed", x.total(20), 0);
    }

    private static void sortFullBin() {
        ShirtButtons x = new ShirtButtons();
        x.set(6, 1);
        Check.bring(x, "1h9,1h8,1h10,2h9");
        due("sort(3)", x.sort(3), 3);
        check.hopperIs("two went back", x, 3, 1, 2);
        due("gone back", x.total(19), 2);
        due("rubbed, though it goes back", x.button(2, 3), 1);
        due("it has no bin", x.button(2, 6), ShirtButtons.NONE);
        due("sort(99)", x.sort(99), 99);
        due("the other bin", x.button(3, 6), 1);
        due("rubbed until it is waste", x.button(2, 5), 1);
        due("its chips then", x.button(2, 3), 5);
        due("rubbed", x.total(20), 5);
        check.hopperIs("one is left", x, 1);
        due("all sortings", x.total(18), 102);
        due("its sortings", x.button(1, 9) + x.button(2, 9), 100);
        x = new ShirtButtons();
        x.set(6, 0);
        Check.bring(x, "1h9");
        due("no room at all", x.sort(99), 99);
        due("gone back each time", x.total(19), 99);
    }

    private static void sortWrong() {
        ShirtButtons x = new ShirtButtons();
        due("sort(0), empty", x.sort(0), ShirtButtons.OUT_OF_RANGE);
        due("sort(1), empty", x.sort(1), ShirtButtons.NONE);
        x = Check.with("1h1");
        due("sort(100)", x.sort(100), ShirtButtons.OUT_OF_RANGE);
        for (int many : WILD) {
            due("sort(" + many + ")", x.sort(many), ShirtButtons.OUT_OF_RANGE);
        }
        due("nothing was sorted", x.total(18), 0);
    }

    private static void letGo() {
        ShirtButtons x = Check.sorted("1h5i6,1h5,1h5i9");
        due("letGo()", x.letGo(), 2);
        due("the first one", x.button(0, 5), 3);
        due("not the bin's", x.button(1, 5), 5);
        due("the last one", x.button(2, 5), 3);
        due("letGo is a change", x.total(22), 3);
        due("letGo() again", x.letGo(), ShirtButtons.NONE);
        due("NONE isn't recorded", x.total(22), 3);
        check.totals("let go", x, 9, 0, 0, 0, 2, 0, 1);
    }

    private static void pour() {
        ShirtButtons x = Check.sorted("1h5s9,1h5s1,2h5,1h5s5");
        Check.bring(x, "3h3");
        due("pour(0)", x.pour(0), 3);
        check.hopperIs("by the numbers, at the end", x, 4, 0, 1, 3);
        due("it is in no bin", x.button(0, 6), ShirtButtons.NONE);
        due("the other bin", x.bin(1, 0), 1);
        due("pour(0) again", x.pour(0), ShirtButtons.NONE);
        due("pour(11), empty", x.pour(11), ShirtButtons.NONE);
        due("pour(12)", x.pour(12), ShirtButtons.UNKNOWN);
        for (int bin : WILD) {
            due("pour(" + bin + ")", x.pour(bin), ShirtButtons.UNKNOWN);
        }
        due("pour is a change, once", x.total(22), 4);
    }

    private static void shirt() {
        ShirtButtons x = Check.sorted("1h5s9,1h5s0,1h5s4,1h5s6,1h5s3,1h5s6", "2h5s1");
        due("shirt(0, 3)", x.shirt(0, 3), 16);
        check.binIs("the first alike ones are gone", x, 0, 1, 4, 0);
        due("on the shirt", x.button(2, 5), 6);
        due("its shirt", x.button(3, 8), 0);
        due("its shirt", x.button(5, 8), 0);
        due("on no shirt", x.button(4, 8), ShirtButtons.NONE);
        due("in no bin", x.button(5, 6), ShirtButtons.NONE);
        due("shirt(1, 1)", x.shirt(1, 1), 1);
        due("the second shirt", x.button(6, 8), 1);
        due("shirt(0, 2)", x.shirt(0, 2), -12);
        due("shirt(0, 4)", x.shirt(0, 4), -11);
        due("shirt(0, 1)", x.shirt(0, 1), 0);
        check.totals("shirts", x, 14, 2, 5, 3, 17);
        x.set(7, 6);
        due("just SPREAD", x.shirt(0, 2), 12);
    }

    private static void shirtWorth() {
        ShirtButtons x = Check.sorted("1h5c4s1,1h5c2s1,1h5s2");
        due("worth of less than nothing", x.shirt(0, 3), 0);
        due("on the shirt", x.total(15), 3);
        x = Check.sorted("1h10c1s1,1h5s1,1h5c2s3");
        due("worth less all chips, also those that came by rubbing", x.shirt(0, 3), 1);
        due("worth of all", x.total(17), 1);
        x = Check.sorted("1h5s1,1h5s1,1h5s1,1h5s1,1h5s1,1h5s1,1h5s1,1h5s1,1h5s1");
        due("of like shine the lower number first", x.shirt(0, 2), 2);
        check.binIs("left", x, 0, 2, 3, 4, 5, 6, 7, 8);
        x.undo();
        due("shirt(0, 9)", x.shirt(0, 9), 9);
    }

    private static void shirtWrong() {
        ShirtButtons x = Check.sorted("1h5s9");
        due("shirt(12, 0)", x.shirt(12, 0), ShirtButtons.UNKNOWN);
        due("shirt(-1, 1)", x.shirt(-1, 1), ShirtButtons.UNKNOWN);
        due("shirt(0, 10)", x.shirt(0, 10), ShirtButtons.OUT_OF_RANGE);
        due("shirt(0, 0)", x.shirt(0, 0), ShirtButtons.OUT_OF_RANGE);
        for (int wild : WILD) {
            due("shirt(" + wild + ", 1)", x.shirt(wild, 1), ShirtButtons.UNKNOWN);
            due("shirt(0, " + wild + ")", x.shirt(0, wild), ShirtButtons.OUT_OF_RANGE);
        }
        due("shirt(0, 2)", x.shirt(0, 2), ShirtButtons.REFUSED - 1);
        due("a refused shirt isn't recorded", x.total(22), 2);
        due("no shirt was made", x.total(16), 0);
        due("shirt(0, 1)", x.shirt(0, 1), 9);
        due("shirt is a change", x.total(22), 3);
    }

    private static void polish() {
        ShirtButtons x = Check.sorted("1h5c2s8,1h5s8,1h5i9s3,1h30c1");
        due("polish(0)", x.polish(0), 9);
        due("its chips", x.button(0, 3), 1);
        due("its shine", x.button(0, 4), 9);
        due("polish(0), 9", x.polish(0), ShirtButtons.NOT_POSSIBLE);
        due("polish(1) without chips", x.polish(1), 9);
        due("its chips", x.button(1, 3), 0);
        due("polish on the magnet", x.polish(2), 4);
        due("polish of one that is too large", x.polish(3), 1);
        due("polish is a change, but none that is not possible", x.total(22), 4);
        due("polish(4)", x.polish(4), ShirtButtons.UNKNOWN);
        for (int wild : WILD) {
            due("polish(" + wild + ")", x.polish(wild), ShirtButtons.UNKNOWN);
        }
        x = Check.sorted("1h5s1,1h5s1");
        x.polish(0);
        check.binIs("polishing changes the order", x, 0, 1, 0);
        x.shirt(0, 1);
        due("polish on a shirt", x.polish(1), ShirtButtons.NOT_POSSIBLE);
        due("polish in the bin", x.polish(0), 3);
        Check.bring(x, "1h1c3");
        due("polish in the hopper", x.polish(2), 1);
        due("chips of all", x.total(21), 2);
    }

    private static void set() {
        int[] low = {1, 1, 1, 0, 1, 1, 0, 0};
        int[] high = {30, 30, 30, 9, 10, 9, 20, 9};
        int[] first = {10, 15, 22, 4, 6, 3, 10, 2};
        for (int s = 0; s < 8; s++) {
            ShirtButtons x = new ShirtButtons();
            due("set to below the range", x.set(s, low[s] - 1), ShirtButtons.OUT_OF_RANGE);
            due("set to above the range", x.set(s, high[s] + 1), ShirtButtons.OUT_OF_RANGE);
            for (int wild : WILD) {
                due("set(" + s + ", " + wild + ")", x.set(s, wild), ShirtButtons.OUT_OF_RANGE);
            }
            due("set to what it is", x.set(s, first[s]), ShirtButtons.NONE);
            due("nothing was recorded", x.total(22), 0);
            due("set to the highest", x.set(s, high[s]), s < 2 ? ShirtButtons.NOT_POSSIBLE : first[s]);
            int before = x.total(s);
            due("set to the lowest", x.set(s, low[s]), s == 1 || s == 2 ? ShirtButtons.NOT_POSSIBLE : before);
            due("what it is then", x.total(s), s == 1 || s == 2 ? before : low[s]);
            due("changes", x.total(22), s < 1 || s == 2 ? 1 : s == 1 ? 0 : 2);
        }
        ShirtButtons x = new ShirtButtons();
        due("set(8, -1)", x.set(8, -1), ShirtButtons.UNKNOWN);
        for (int wild : WILD) {
            due("set(" + wild + ", 1)", x.set(wild, 1), ShirtButtons.UNKNOWN);
        }
    }

    private static void setMeshes() {
        ShirtButtons x = new ShirtButtons();
        due("set(0, 16)", x.set(0, 16), ShirtButtons.NOT_POSSIBLE);
        due("set(0, 15)", x.set(0, 15), 10);
        due("set(1, 14)", x.set(1, 14), ShirtButtons.NOT_POSSIBLE);
        due("set(1, 23)", x.set(1, 23), ShirtButtons.NOT_POSSIBLE);
        due("set(1, 22)", x.set(1, 22), 15);
        due("set(2, 21)", x.set(2, 21), ShirtButtons.NOT_POSSIBLE);
        due("set(2, 30)", x.set(2, 30), 22);
        due("set(3, 0) isn't held by the mesh before", x.set(3, 0), 4);
        check.totals("meshes", x, 0, 15, 22, 30, 0);
    }

    private static void type() {
        ShirtButtons x = new ShirtButtons();
        for (int i = 1; i <= 60; i++) {
            due("type", x.type((char) (i * 1000)), i);
        }
        due("type the 61st", x.type('1'), ShirtButtons.FULL);
        due("the length", x.total(23), 60);
        due("type isn't a change", x.total(22), 0);
        due("the fault is at the first", x.read(), -100);
    }

    private static void clearText() {
        ShirtButtons x = new ShirtButtons();
        due("clearText(), empty", x.clearText(), 0);
        Check.write(x, "1h1");
        due("clearText()", x.clearText(), 3);
        due("the length", x.total(23), 0);
        due("read() of nothing", x.read(), -100);
        due("type from the beginning", x.type('2'), 1);
        due("what was behind it doesn't count", x.read(), -101);
        due("clearText isn't a change", x.total(22), 0);
    }

    private static void undo() {
        ShirtButtons x = Check.with("1h10s3,1h9i9,1h9s5,1h9s4");
        x.sort(99);
        x.shirt(0, 2);
        x.set(0, 5);
        Check.write(x, "1h1");
        due("undo the setting", x.undo(), 3);
        due("the setting", x.total(0), 10);
        due("the text stays", x.total(23), 3);
        due("undo the shirt", x.undo(), 2);
        check.totals("no shirt", x, 14, 3, 0, 0, 0, 4, 0, 1, 1, 2, 3);
        check.binIs("in its bin", x, 0, 0, 3, 2);
        due("on no shirt", x.button(0, 8), ShirtButtons.NONE);
        due("undo the sorting", x.undo(), 1);
        check.hopperIs("all wait", x, 0, 1, 2, 3);
        check.totals("not sorted", x, 18, 0, 0, 0, 0, 1);
        due("sorted how often", x.button(0, 9), 0);
        due("undo the reading", x.undo(), 0);
        check.totals("none came", x, 8, 0, 0);
        due("no button", x.button(0, 0), ShirtButtons.UNKNOWN);
        due("undo nothing", x.undo(), ShirtButtons.NONE);
        due("it may come again", x.read(), 1);
        due("sorted how often", x.button(0, 9), 0);
    }

    private static void undoAll() {
        ShirtButtons x = Check.with("1h9c5s3,1h9s1,1h9s1");
        x.set(6, 1);
        x.set(3, 9);
        x.sort(1);
        x.sort(1);
        due("one has gone back", x.total(19), 1);
        x.polish(0);
        due("undo the polishing", x.undo(), 3);
        due("its shine", x.button(0, 4), 3);
        due("its chips", x.button(0, 3), 5);
        due("undo the going back", x.undo(), 2);
        due("none has gone back", x.total(19), 0);
        check.hopperIs("as before", x, 1, 2);
    }

    private static void undoDropsOldest() {
        ShirtButtons x = new ShirtButtons();
        for (int value = 3; value <= 8; value++) {
            x.set(7, value);
            due("states", x.total(22), Math.min(value - 2, 4));
        }
        for (int left = 3; left >= 0; left--) {
            due("undo", x.undo(), left);
            due("SPREAD", x.total(7), left + 4);
        }
        due("undo the fifth", x.undo(), ShirtButtons.NONE);
        due("SPREAD", x.total(7), 4);
        x.set(7, 9);
        due("recorded again", x.undo(), 0);
        due("SPREAD", x.total(7), 4);
    }

    private static void notRecorded() {
        ShirtButtons x = Check.sorted("1h5s9,1h5s1");
        x.keep();
        x.goesTo(0);
        x.reason(0, 1);
        x.leastSpread(0, 1);
        x.shirts(1);
        x.ifMesh(0, 3, 5);
        x.inBin(0, 0);
        x.bin(0, 3);
        x.shirt(0, 2);
        x.shirt(0, 3);
        x.letGo();
        x.sort(1);
        x.pour(3);
        x.read();
        due("states", x.total(22), 2);
    }

    private static void keep() {
        ShirtButtons x = new ShirtButtons();
        due("keep() of nothing", x.keep(), 0);
        Check.bring(x, "1h1,1h2");
        due("restore() of nothing", x.restore(), 0);
        due("keep isn't a change", x.total(22), 2);
        x.undo();
        due("keep()", x.keep(), 2);
        x.undo();
        due("restore in place of the earlier", x.restore(), 2);
        due("a button of it", x.button(1, 1), 2);
    }

    private static void restore() {
        ShirtButtons x = Check.with("1h9,2h9i9,3h9");
        due("restore() without", x.restore(), ShirtButtons.NONE);
        x.set(1, 12);
        x.keep();
        x.sort(99);
        x.set(1, 13);
        Check.bring(x, "4h4");
        Check.write(x, "4h4");
        due("restore()", x.restore(), 3);
        due("restore is a change; the history stays", x.total(22), 4);
        check.totals("restored", x, 8, 3, 3, 0, 0, 0, 0, 0, 0);
        check.hopperIs("restored", x, 0, 1, 2);
        due("the setting", x.total(1), 12);
        due("the text stays", x.total(23), 3);
        due("the button that came later", x.button(3, 0), ShirtButtons.UNKNOWN);
        due("undo of it", x.undo(), 3);
        check.totals("undone", x, 8, 4, 1);
        due("the snapshot stays", x.restore(), 3);
        x.sort(1);
        due("restore() twice", x.restore(), 3);
        check.hopperIs("the snapshot isn't sorted along", x, 0, 1, 2);
    }

    private static void restoreFewer() {
        ShirtButtons x = new ShirtButtons();
        x.keep();
        Check.bring(x, "1h9c3,1h9i9c1,1h9c4");
        x.sort(3);
        due("restore() of none", x.restore(), 0);
        due("chips of none", x.total(21), 0);
        due("none on the magnet", x.letGo(), ShirtButtons.NONE);
        Check.bring(x, "1h8");
        due("sorted how often", x.button(0, 9), 0);
        due("its chips", x.button(0, 3), 0);
        due("on its way", x.button(0, 5), 0);
        check.hopperIs("come anew", x, 0);
    }

    private static void button() {
        ShirtButtons x = Check.sorted("3h12i4c1s7,2h3");
        int[] wants = {3, 12, 4, 1, 7, 5, 6, ShirtButtons.NONE, ShirtButtons.NONE, 1};
        for (int what = 0; what < wants.length; what++) {
            due("button(0, " + what + ")", x.button(0, what), wants[what]);
        }
        Check.bring(x, "1h1,1h1");
        x.shirt(6, 1);
        int[][] some = {{0, 5, 6}, {0, 6, ShirtButtons.NONE}, {0, 8, 0}, {1, 8, ShirtButtons.NONE},
            {2, 6, ShirtButtons.NONE}, {2, 7, 0}, {3, 7, 1}, {3, 8, ShirtButtons.NONE}, {3, 9, 0}};
        for (int[] one : some) {
            due("button(" + one[0] + ", " + one[1] + ")", x.button(one[0], one[1]), one[2]);
        }
        due("button(0, 10)", x.button(0, 10), ShirtButtons.OUT_OF_RANGE);
        due("button(4, 10)", x.button(4, 10), ShirtButtons.UNKNOWN);
        for (int wild : WILD) {
            due("button(0, " + wild + ")", x.button(0, wild), ShirtButtons.OUT_OF_RANGE);
            due("button(" + wild + ", 0)", x.button(wild, 0), ShirtButtons.UNKNOWN);
        }
    }

    private static void inBin() {
        ShirtButtons x = Check.sorted("1h5s5,1h5s1,1h5s5,1h5s0,1h5s1", "1h11s2");
        check.binIs("by shine, then by number", x, 0, 3, 1, 4, 0, 2);
        check.binIs("another bin", x, 4, 5);
        check.binIs("an empty bin", x, 11);
        due("inBin(12, -1)", x.inBin(12, -1), ShirtButtons.UNKNOWN);
        due("inBin(0, -1)", x.inBin(0, -1), ShirtButtons.OUT_OF_RANGE);
        due("inBin(0, a lot)", x.inBin(0, Integer.MAX_VALUE), ShirtButtons.NONE);
        for (int wild : WILD) {
            due("inBin(" + wild + ", 0)", x.inBin(wild, 0), ShirtButtons.UNKNOWN);
        }
    }

    private static void bin() {
        ShirtButtons x = Check.sorted("1h5s9,1h5s2,1h5s4,1h5s6,1h5s3");
        int[] wants = {5, 5, 24, 3, 7};
        int[] empty = {0, 10, 0, 0, 0};
        for (int what = 0; what < 5; what++) {
            due("bin(0, " + what + ")", x.bin(0, what), wants[what]);
            due("bin(3, " + what + ")", x.bin(3, what), empty[what]);
        }
        x.set(6, 3);
        due("it takes 0 at least", x.bin(0, 1), 0);
        x.set(7, 0);
        due("one is like itself", x.bin(0, 3), 1);
        x = Check.sorted("1h5,1h5,1h5,1h5,1h5,1h5,1h5,1h5,1h5,1h5");
        due("9 at most", x.bin(0, 3), 9);
        due("full", x.bin(0, 1), 0);
        due("all of the like ones", x.bin(0, 4), 0);
        due("bin(0, 5)", x.bin(0, 5), ShirtButtons.OUT_OF_RANGE);
        due("bin(12, 5)", x.bin(12, 5), ShirtButtons.UNKNOWN);
        for (int wild : WILD) {
            due("bin(0, " + wild + ")", x.bin(0, wild), ShirtButtons.OUT_OF_RANGE);
            due("bin(" + wild + ", 0)", x.bin(wild, 0), ShirtButtons.UNKNOWN);
        }
    }

    private static void total() {
        ShirtButtons x = new ShirtButtons();
        x.set(6, 2);
        Check.bring(x, "1h10c5,1h30c1,1h10s4", "1h9s4,1h9s4,1h3i6,1h9i7,1h7i8");
        x.sort(8);
        Check.bring(x, "2h2");
        x.shirt(0, 1);
        Check.write(x, "hallo");
        check.totals("all", x, 0, 10, 15, 22, 4, 6, 3, 2, 2, 9, 2, 1, 0, 3, 1, 1, 1, 1, 3, 8, 1, 1, 7, 4, 5);
        due("total(24)", x.total(24), ShirtButtons.OUT_OF_RANGE);
        for (int wild : WILD) {
            due("total(" + wild + ")", x.total(wild), ShirtButtons.OUT_OF_RANGE);
        }
    }

    private static void goesTo() {
        ShirtButtons x = new ShirtButtons();
        x.set(6, 1);
        x.set(5, 2);
        Check.bring(x, "1h5,1h5i6", "1h5c5,1h30i9,1h23,2h22c4,1h10");
        x.sort(1);
        int[] wants = {ShirtButtons.NOT_POSSIBLE, 2, 1, 2, 4, 5, 0, ShirtButtons.UNKNOWN};
        for (int b = 0; b < wants.length; b++) {
            due("goesTo(" + b + ")", x.goesTo(b), wants[b]);
        }
        x.sort(1);
        due("would be let go at once", x.goesTo(3), 3);
        due("on the magnet", x.goesTo(1), ShirtButtons.NOT_POSSIBLE);
        due("nothing was rubbed", x.total(20), 0);
        due("nothing was sorted", x.button(6, 9), 0);
        x.set(6, 2);
        due("there is room", x.goesTo(6), 5);
        for (int wild : WILD) {
            due("goesTo(" + wild + ")", x.goesTo(wild), ShirtButtons.UNKNOWN);
        }
    }

    private static void reason() {
        ShirtButtons x = Check.sorted("1h5s9,1h5s2,1h5s5");
        due("reason(0, 1)", x.reason(0, 1), 0);
        due("reason(0, 2)", x.reason(0, 2), 2);
        due("reason(0, 3), just so many", x.reason(0, 3), 2);
        due("reason(0, 4)", x.reason(0, 4), 1);
        due("reason(1, 1)", x.reason(1, 1), 1);
        x.set(7, 3);
        due("reason(0, 2), more SPREAD", x.reason(0, 2), 0);
        due("reason(12, 0)", x.reason(12, 0), ShirtButtons.UNKNOWN);
        due("reason(0, 0)", x.reason(0, 0), ShirtButtons.OUT_OF_RANGE);
        due("reason(0, 10)", x.reason(0, 10), ShirtButtons.OUT_OF_RANGE);
        for (int wild : WILD) {
            due("reason(0, " + wild + ")", x.reason(0, wild), ShirtButtons.OUT_OF_RANGE);
            due("reason(" + wild + ", 1)", x.reason(wild, 1), ShirtButtons.UNKNOWN);
        }
    }

    private static void leastSpread() {
        ShirtButtons x = Check.sorted("1h5s9,1h5s0,1h5s5,1h5s7,1h5s2");
        int[] wants = {0, 2, 4, 7, 9, ShirtButtons.NONE};
        for (int i = 0; i < wants.length; i++) {
            due("leastSpread(0, " + (i + 1) + ")", x.leastSpread(0, i + 1), wants[i]);
        }
        due("leastSpread(1, 1)", x.leastSpread(1, 1), ShirtButtons.NONE);
        due("leastSpread(12, 0)", x.leastSpread(12, 0), ShirtButtons.UNKNOWN);
        due("leastSpread(0, 0)", x.leastSpread(0, 0), ShirtButtons.OUT_OF_RANGE);
        due("leastSpread(1, 10)", x.leastSpread(1, 10), ShirtButtons.OUT_OF_RANGE);
        for (int wild : WILD) {
            due("leastSpread(0, " + wild + ")", x.leastSpread(0, wild), ShirtButtons.OUT_OF_RANGE);
            due("leastSpread(" + wild + ", 1)", x.leastSpread(wild, 1), ShirtButtons.UNKNOWN);
        }
    }

    private static void shirts() {
        ShirtButtons x = Check.sorted("1h5s0,1h5s2,1h5s3,1h5s4,1h5s9", "2h5s9,2h5s9,4h22s1,1h1s8");
        int[] wants = {9, 4, 1, 0, 0, 0, 0, 0, 0};
        for (int i = 0; i < wants.length; i++) {
            due("shirts(" + (i + 1) + ")", x.shirts(i + 1), wants[i]);
        }
        due("none was made", x.total(16), 0);
        due("shirts(10)", x.shirts(10), ShirtButtons.OUT_OF_RANGE);
        due("shirts(0)", x.shirts(0), ShirtButtons.OUT_OF_RANGE);
        for (int wild : WILD) {
            due("shirts(" + wild + ")", x.shirts(wild), ShirtButtons.OUT_OF_RANGE);
        }
    }

    private static void ifMesh() {
        ShirtButtons x = Check.with("1h23,1h22,1h11,1h9c5");
        int[] wants = {0, 1, 0, 0, 2, 1, 0};
        for (int what = 0; what < wants.length; what++) {
            due("ifMesh(2, 21, " + what + ")", x.ifMesh(2, 21, what), wants[what]);
        }
        due("ifMesh(2, 22, 4), as it is", x.ifMesh(2, 22, 4), 1);
        due("ifMesh(2, 23, 4)", x.ifMesh(2, 23, 4), 0);
        check.hopperIs("nothing changes", x, 0, 1, 2, 3);
        check.totals("nothing changes", x, 18, 0, 0, 0, 5, 1);
        due("the mesh", x.total(2), 22);
        due("ifMesh(3, 31, 0)", x.ifMesh(3, 31, 0), ShirtButtons.UNKNOWN);
        due("ifMesh(0, 31, 0)", x.ifMesh(0, 31, 0), ShirtButtons.OUT_OF_RANGE);
        due("ifMesh(0, 0, 0)", x.ifMesh(0, 0, 0), ShirtButtons.OUT_OF_RANGE);
        due("ifMesh(0, 16, 7)", x.ifMesh(0, 16, 7), ShirtButtons.OUT_OF_RANGE);
        due("ifMesh(0, 16, 0)", x.ifMesh(0, 16, 0), ShirtButtons.NOT_POSSIBLE);
        due("ifMesh(1, 9, 0)", x.ifMesh(1, 9, 0), ShirtButtons.NOT_POSSIBLE);
        due("ifMesh(2, 14, 0)", x.ifMesh(2, 14, 0), ShirtButtons.NOT_POSSIBLE);
        for (int wild : WILD) {
            due("ifMesh(" + wild + ", 9, 0)", x.ifMesh(wild, 9, 0), ShirtButtons.UNKNOWN);
            due("ifMesh(0, " + wild + ", 0)", x.ifMesh(0, wild, 0), ShirtButtons.OUT_OF_RANGE);
            due("ifMesh(0, 9, " + wild + ")", x.ifMesh(0, 9, wild), ShirtButtons.OUT_OF_RANGE);
        }
    }

    private static void ifMeshMagnetAndBins() {
        ShirtButtons x = new ShirtButtons();
        x.set(6, 1);
        Check.bring(x, "1h5,1h5i6,1h5i6", "1h6,1h7i6,1h8i6,1h9,1h11c4");
        x.sort(3);
        due("go back, each once", x.ifMesh(0, 10, 0), 2);
        due("one goes to another bin", x.ifMesh(0, 8, 5), 2);
        due("one fills another bin", x.ifMesh(0, 5, 0), 2);
        due("the magnet lets go on the way", x.ifMesh(0, 10, 2), 1);
        due("the iron box", x.ifMesh(0, 10, 3), 3);
        x = Check.with("1h9");
        x.set(3, 0);
        x.set(6, 0);
        due("rubbed, but sorted only once", x.ifMesh(0, 9, 1), 0);
        x.shirt(0, 1);
        x.set(6, 1);
        x.sort(1);
        x.shirt(0, 1);
        due("those on shirts", x.ifMesh(0, 9, 6), 1);
    }
}
