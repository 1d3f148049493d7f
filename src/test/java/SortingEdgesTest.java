/** The boundaries that 'SORTING' and 'SETTINGS' name, and the promises that sort or tell of it. */
public final class SortingEdgesTest {
    private static final int CHIPS = 3;
    private static final int PULL = 4;
    private static final int HOLD = 5;
    private static final int ROOM = 6;

    private static final int BACK = 0;
    private static final int WASTE = 1;
    private static final int MAGNET = 2;
    private static final int IRON_BOX = 3;
    private static final int TOO_LARGE = 4;
    private static final int IN_BIN = 5;
    private static final int ON_SHIRT = 6;

    private static final int UNKNOWN = ShirtButtons.UNKNOWN;
    private static final int OUT_OF_RANGE = ShirtButtons.OUT_OF_RANGE;
    private static final int NOT_POSSIBLE = ShirtButtons.NOT_POSSIBLE;
    private static final int NONE = ShirtButtons.NONE;

    private static final Check check = new Check("SortingEdgesTest");

    public static void main(String[] args) {
        moreThanChips();
        pullOrMore();
        holdOrMore();
        holdChanged();
        firstPlaceThatApplies();
        aboveTheMesh2();
        allMeshesAlike();
        leastClass();
        justTheMesh();
        likeMeshesRub();
        atMost9Chips();
        chipsFirstThenRubbed();
        binNumbers();
        fewerThanRoom();
        roomLowered();
        roomAgain();
        goesBack();
        theFirstOfTheHopper();
        sortMany();
        letGoHowMany();
        pourHowMany();
        pourFull();
        goesToAnyOfTheHopper();
        settingRanges();
        firstValues();
        meshesInOrder();
        ifMeshRanges();
        ifMeshMeshesInOrder();
        ifMeshEachOnce();
        ifMeshAsSortingWould();
        check.end();
    }

    private static void due(String what, int got, int want) {
        check.due(what, got, want);
    }

    /** goesTo tells the place of the hopper's first one, and sort brings it there. */
    private static void goes(String what, ShirtButtons x, int button, int want) {
        due("goesTo of " + what, x.goesTo(button), want);
        due("hopper rank of " + what, x.button(button, 7), 0);
        x.sort(1);
        due("place of " + what, x.button(button, 5), want);
    }

    /** "1. if it has more than CHIPS chips: the waste" */
    private static void moreThanChips() {
        for (int chips = 0; chips <= 9; chips++) {
            ShirtButtons x = Check.withSettings(CHIPS, chips);
            Check.bring(x, "1h9c" + chips);
            goes(chips + " chips of " + chips, x, 0, IN_BIN);
            if (chips < 9) {
                Check.bring(x, "1h9c" + (chips + 1));
                goes("one chip more than " + chips, x, 1, WASTE);
            }
        }
    }

    /** "2. if it has PULL iron or more: the magnet" */
    private static void pullOrMore() {
        for (int pull = 1; pull <= 10; pull++) {
            ShirtButtons x = Check.withSettings(PULL, pull);
            Check.bring(x, "1h9i" + (pull - 1));
            goes("one iron less than " + pull, x, 0, IN_BIN);
            if (pull <= 9) {
                Check.bring(x, "1h9i" + pull);
                goes("iron of just " + pull, x, 1, MAGNET);
            }
        }
    }

    /** "if the magnet holds HOLD buttons or more then, all of them go to the iron box" */
    private static void holdOrMore() {
        for (int hold = 1; hold <= 9; hold++) {
            ShirtButtons x = Check.withSettings(HOLD, hold);
            Check.bringLike(x, "1h9i9", 10);
            for (int held = 1; held < hold; held++) {
                goes("number " + held + " of " + hold, x, held - 1, MAGNET);
                check.totals("held " + held + " of " + hold, x, 11, held, 0);
            }
            goes("the last of " + hold, x, hold - 1, IRON_BOX);
            check.totals("let go " + hold, x, 11, 0, hold);
            goes("the first after " + hold, x, hold, hold == 1 ? IRON_BOX : MAGNET);
        }
    }

    private static void holdChanged() {
        int[][] cases = {{1, IRON_BOX, 0, 3}, {2, IRON_BOX, 0, 3}, {3, IRON_BOX, 0, 3}, {4, MAGNET, 3, 0}};
        for (int[] one : cases) {
            ShirtButtons x = Check.with("1h9i9,1h9i9,1h9i9");
            x.sort(2);
            x.set(HOLD, one[0]);
            check.totals("HOLD alone moves nothing", x, 11, 2, 0);
            goes("the third with HOLD " + one[0], x, 2, one[1]);
            check.totals("with HOLD " + one[0], x, 11, one[2], one[3]);
        }
    }

    /** "the first of these places that applies" */
    private static void firstPlaceThatApplies() {
        ShirtButtons x = Check.with("1h30i9c5,1h30i9c4,1h30i5c4,1h22i5c4");
        goes("chips, iron and size", x, 0, WASTE);
        goes("iron and size", x, 1, MAGNET);
        goes("size", x, 2, TOO_LARGE);
        goes("none of them", x, 3, IN_BIN);
        x = Check.withSettings(ROOM, 0);
        Check.bring(x, "1h9c5,1h9i6,1h23,1h9");
        goes("waste without room", x, 0, WASTE);
        goes("the magnet without room", x, 1, MAGNET);
        goes("too large without room", x, 2, TOO_LARGE);
        goes("the bin without room", x, 3, BACK);
        due("only this one went back", x.total(19), 1);
    }

    /** "3. if its size is above the mesh 2: to those that are too large" */
    private static void aboveTheMesh2() {
        for (int mesh = 15; mesh <= 30; mesh++) {
            ShirtButtons x = Check.withSettings(2, mesh);
            Check.bring(x, "1h" + mesh);
            goes("just the mesh " + mesh, x, 0, IN_BIN);
            due("class of the mesh " + mesh, x.button(0, 6), mesh == 15 ? 4 : 8);
            if (mesh < 30) {
                Check.bring(x, "1h" + (mesh + 1));
                goes("above the mesh " + mesh, x, 1, TOO_LARGE);
            }
        }
    }

    private static void allMeshesAlike() {
        ShirtButtons x = Check.withSettings(0, 1, 1, 1, 2, 1);
        Check.bring(x, "2h1,2h2");
        goes("size 1, meshes 1", x, 0, IN_BIN);
        due("its bin", x.button(0, 6), 1);
        due("it is rubbed", x.total(20), 1);
        goes("size 2, meshes 1", x, 1, TOO_LARGE);
        x = Check.withSettings(2, 30, 1, 30, 0, 30);
        Check.bring(x, "3h29,3h30");
        goes("size 29, meshes 30", x, 0, IN_BIN);
        goes("size 30, meshes 30", x, 1, IN_BIN);
        due("bin of 29", x.button(0, 6), 2);
        due("bin of 30", x.button(1, 6), 2);
        due("30 alone is rubbed", x.button(1, 3) - x.button(0, 3), 1);
    }

    /** The classes and the chips then of these sizes, each of one hole. */
    private static void classes(String what, ShirtButtons x, int[] sizes, int[] classes, int[] chips) {
        for (int i = 0; i < sizes.length; i++) {
            Check.bring(x, "1h" + sizes[i]);
            x.sort(1);
            due(what + ": bin of size " + sizes[i], x.button(i, 6), 4 * classes[i]);
            due(what + ": chips of size " + sizes[i], x.button(i, 3), chips[i]);
        }
    }

    /** "its class is the least one of 0, 1 and 2 whose mesh is its size or more" */
    private static void leastClass() {
        int[] sizes = {1, 9, 10, 11, 14, 15, 16, 21, 22};
        int[] classes = {0, 0, 0, 1, 1, 1, 2, 2, 2};
        int[] chips = {0, 0, 1, 0, 0, 1, 0, 0, 1};
        classes("first meshes", new ShirtButtons(), sizes, classes, chips);
    }

    /** "If its size is just the mesh of its class, it is rubbed" */
    private static void justTheMesh() {
        ShirtButtons x = Check.withSettings(0, 5, 1, 6, 2, 7);
        classes("meshes 5, 6, 7", x, new int[] {4, 5, 6, 7}, new int[] {0, 0, 1, 2}, new int[] {0, 1, 1, 1});
        due("rubbed", x.total(20), 3);
        x = Check.withSettings(0, 5, 1, 7, 2, 9);
        classes("meshes 5, 7, 9", x, new int[] {4, 5, 6, 7, 8, 9}, new int[] {0, 0, 1, 1, 2, 2},
            new int[] {0, 1, 0, 1, 0, 1});
        due("rubbed", x.total(20), 3);
    }

    private static void likeMeshesRub() {
        ShirtButtons x = Check.withSettings(1, 10);
        classes("meshes 10, 10, 22", x, new int[] {9, 10, 11, 22}, new int[] {0, 0, 2, 2}, new int[] {0, 1, 0, 1});
        x = Check.withSettings(1, 22);
        classes("meshes 10, 22, 22", x, new int[] {10, 11, 21, 22}, new int[] {0, 1, 1, 1}, new int[] {1, 0, 0, 1});
        due("rubbed once each", x.total(20), 2);
    }

    /** "it has one chip more, but at most 9 (with 9 chips it is rubbed all the same)" */
    private static void atMost9Chips() {
        ShirtButtons x = Check.withSettings(CHIPS, 9);
        Check.bring(x, "1h10c7,1h10c8,1h10c9,1h10");
        int[] chips = {8, 9, 9, 1};
        for (int b = 0; b < chips.length; b++) {
            x.sort(1);
            due("chips of the rubbed " + b, x.button(b, 3), chips[b]);
            due("rubbed up to " + b, x.total(20), b + 1);
        }
        due("chips of all", x.total(21), 27);
    }

    private static void chipsFirstThenRubbed() {
        ShirtButtons x = Check.withSettings(CHIPS, 0);
        Check.bring(x, "1h10");
        goes("no chips ahead of rubbing", x, 0, IN_BIN);
        x.pour(0);
        goes("one chip by rubbing", x, 0, WASTE);
        due("rubbed once only", x.total(20), 1);
        x = Check.with("1h10i6,1h22c5,1h23");
        x.sort(3);
        due("on the way to other places none is rubbed", x.total(20), 0);
        due("their chips stay", x.total(21), 5);
    }

    /** "Its bin is 4 times the class, and its holes less 1 (0 to 11)" */
    private static void binNumbers() {
        ShirtButtons x = new ShirtButtons();
        int[] sizes = {9, 14, 21};
        for (int b = 0; b < 12; b++) {
            Check.bring(x, (b % 4 + 1) + "h" + sizes[b / 4]);
            x.sort(1);
            due("bin of " + b, x.button(b, 6), b);
            due("in bin " + b, x.bin(b, 0), 1);
            due("the one in bin " + b, x.inBin(b, 0), b);
        }
    }

    /** "If fewer than ROOM buttons are in this bin, it goes there; otherwise it goes back" */
    private static void fewerThanRoom() {
        for (int room : new int[] {0, 1, 2, 10, 19, 20}) {
            ShirtButtons x = Check.withSettings(ROOM, room);
            Check.bringLike(x, "1h9", 21);
            if (room > 1) {
                x.sort(room - 1);
            }
            if (room > 0) {
                due("place for one more of " + room, x.bin(0, 1), 1);
                goes("the last of " + room, x, room - 1, IN_BIN);
            }
            due("no place more of " + room, x.bin(0, 1), 0);
            due("none went back of " + room, x.total(19), 0);
            goes("the first too many of " + room, x, room, BACK);
            due("in the bin of " + room, x.bin(0, 0), room);
            due("one went back of " + room, x.total(19), 1);
            due("it is the last of the hopper", x.button(room, 7), 20 - room);
        }
    }

    private static void roomLowered() {
        ShirtButtons x = Check.sorted("1h9,1h9,1h9");
        Check.bring(x, "1h9,2h9");
        x.set(ROOM, 2);
        due("what is in the bin stays", x.bin(0, 0), 3);
        due("it takes 0 at least", x.bin(0, 1), 0);
        goes("one for a bin with more than ROOM", x, 3, BACK);
        goes("one for another bin", x, 4, IN_BIN);
        x.set(ROOM, 4);
        due("it takes one more", x.bin(0, 1), 1);
        goes("one for a bin with fewer than ROOM", x, 3, IN_BIN);
    }

    private static void roomAgain() {
        ShirtButtons x = Check.withSettings(ROOM, 1);
        Check.bring(x, "1h9,1h9");
        x.sort(2);
        hopper("the bin is full", x, 1);
        x.shirt(0, 1);
        goes("room after a shirt", x, 1, IN_BIN);
        Check.bring(x, "1h9");
        x.pour(0);
        hopper("poured", x, 2, 1);
        goes("room after pouring", x, 2, IN_BIN);
        goes("the poured one comes later", x, 1, BACK);
    }

    private static void hopper(String what, ShirtButtons x, int... wants) {
        check.hopperIs(what, x, wants);
    }

    private static void goesBack() {
        ShirtButtons x = Check.withSettings(ROOM, 0);
        Check.bring(x, "1h10c3");
        due("sort(4) of one alone", x.sort(4), 3);
        due("it was sorted", x.button(0, 9), 3);
        due("it went back", x.total(19), 2);
        due("it was rubbed", x.total(20), 2);
        due("its chips", x.button(0, 3), 5);
        due("it came to the waste", x.button(0, 5), WASTE);
        x = Check.withSettings(ROOM, 0);
        Check.bring(x, "1h9,2h9,3h9");
        x.sort(2);
        hopper("two went back", x, 2, 0, 1);
        due("no bin", x.button(0, 6), NONE);
        due("sorted of all", x.total(18), 2);
    }

    /** "To sort a button is to take the first one of the hopper" */
    private static void theFirstOfTheHopper() {
        ShirtButtons x = Check.with("1h9,2h9,3h9");
        x.sort(1);
        check.placesAre("sort(1)", x, IN_BIN, BACK, BACK);
        hopper("the others move up", x, 1, 2);
        x.pour(0);
        hopper("the poured one is behind them", x, 1, 2, 0);
        x.sort(1);
        check.placesAre("sort(1) again", x, BACK, IN_BIN, BACK);
    }

    private static void sortMany() {
        ShirtButtons x = Check.with("1h9,1h9,1h9");
        due("sort(0)", x.sort(0), OUT_OF_RANGE);
        due("sort(-1)", x.sort(-1), OUT_OF_RANGE);
        due("sort(100)", x.sort(100), OUT_OF_RANGE);
        due("none was sorted", x.total(18), 0);
        due("sort(1)", x.sort(1), 1);
        due("sort(99) of two", x.sort(99), 2);
        due("sort(1) of none", x.sort(1), NONE);
        due("sort(99) of none", x.sort(99), NONE);
        due("sort(0) of none", x.sort(0), OUT_OF_RANGE);
        due("sort(100) of none", x.sort(100), OUT_OF_RANGE);
        x = Check.with("1h9,1h9,1h9");
        due("sort(3) of three", x.sort(3), 3);
        x = Check.with("1h9,1h9,1h9");
        due("sort(4) of three", x.sort(4), 3);
        x = Check.with("1h9,1h9,1h9");
        due("sort(2) of three", x.sort(2), 2);
        x = Check.withSettings(ROOM, 0);
        Check.bringLike(x, "1h9", 40);
        due("sort(98) of 40 that go back", x.sort(98), 98);
        due("sort(99) of 40 that go back", x.sort(99), 99);
        due("all are still there", x.total(9), 40);
        due("those that went back", x.total(19), 197);
    }

    private static void letGoHowMany() {
        ShirtButtons x = new ShirtButtons();
        due("letGo() of a new one", x.letGo(), NONE);
        x = Check.withSettings(HOLD, 9);
        Check.bringLike(x, "1h9i9", 10);
        due("letGo() while they are in the hopper", x.letGo(), NONE);
        x.sort(1);
        due("letGo() of one", x.letGo(), 1);
        x.sort(8);
        due("letGo() of eight, the most", x.letGo(), 8);
        due("letGo() again", x.letGo(), NONE);
        check.totals("let go", x, 9, 1, 0, 0, 9);
        x.sort(1);
        due("the box doesn't count", x.total(11), 1);
        x = Check.withSettings(HOLD, 9);
        Check.bringLike(x, "1h9i9", 40);
        x.sort(8);
        due("letGo() of eight of 40", x.letGo(), 8);
        x.sort(31);
        check.totals("four more times", x, 9, 1, 0, 4, 35);
        x.sort(1);
        due("letGo() of the last of 40", x.letGo(), 5);
        due("the last of 40 is in the box", x.button(39, 5), IRON_BOX);
    }

    private static void pourHowMany() {
        ShirtButtons x = Check.sorted("1h9,4h21");
        due("pour(-1)", x.pour(-1), UNKNOWN);
        due("pour(12)", x.pour(12), UNKNOWN);
        due("pour(1), empty", x.pour(1), NONE);
        due("pour(10), empty", x.pour(10), NONE);
        due("pour(11)", x.pour(11), 1);
        due("pour(0)", x.pour(0), 1);
        hopper("in the order of pouring", x, 1, 0);
        due("pour(0), empty now", x.pour(0), NONE);
        due("pour(11), empty now", x.pour(11), NONE);
    }

    private static void pourFull() {
        ShirtButtons x = Check.withSettings(ROOM, 20);
        Check.bringLike(x, "1h9", 20);
        Check.bringLike(x, "2h9", 20);
        due("sort all", x.sort(99), 40);
        due("pour(1)", x.pour(1), 20);
        due("pour(0)", x.pour(0), 20);
        for (int rank = 0; rank < 40; rank++) {
            int button = (rank + 20) % 40;
            due("rank of " + button, x.button(button, 7), rank);
        }
        due("bins are empty", x.bin(0, 0) + x.bin(1, 0), 0);
    }

    /** "to which place a button would be brought, if it was the first one of the hopper" */
    private static void goesToAnyOfTheHopper() {
        ShirtButtons x = Check.with("1h9i9,1h9i9,1h9i9,1h9c9,1h30,1h9,1h9");
        x.sort(6);
        x.shirt(0, 1);
        Check.bring(x, "1h9i9,1h9,1h9c9,1h30,1h9i9");
        x.sort(3);
        int[] places = {IRON_BOX, IRON_BOX, IRON_BOX, WASTE, TOO_LARGE, ON_SHIRT, IN_BIN, MAGNET, IN_BIN, BACK, BACK, BACK};
        check.placesAre("all places", x, places);
        for (int b = 0; b < 9; b++) {
            due("goesTo(" + b + "), not in the hopper", x.goesTo(b), NOT_POSSIBLE);
        }
        due("goesTo the first", x.goesTo(9), WASTE);
        due("goesTo the second", x.goesTo(10), TOO_LARGE);
        due("goesTo the last", x.goesTo(11), MAGNET);
        due("goesTo(-1)", x.goesTo(-1), UNKNOWN);
        due("goesTo(12)", x.goesTo(12), UNKNOWN);
        x.set(HOLD, 2);
        due("goesTo the last, let go at once", x.goesTo(11), IRON_BOX);
        due("the magnet holds what it held", x.total(11), 1);
    }

    private static final int[] LOWEST = {1, 1, 1, 0, 1, 1, 0, 0};
    private static final int[] HIGHEST = {30, 30, 30, 9, 10, 9, 20, 9};
    private static final int[] FIRST = {10, 15, 22, 4, 6, 3, 10, 2};

    /** "(Range; first value.)": each setting takes both ends of its range, and nothing beside it. */
    private static void settingRanges() {
        for (int s = 0; s < 8; s++) {
            ShirtButtons low = s < 3 ? Check.withSettings(0, 1, 1, 1, 2, 2) : new ShirtButtons();
            settingEnd("lowest", low, s, LOWEST[s], LOWEST[s] - 1);
            ShirtButtons high = s < 3 ? Check.withSettings(2, 30, 1, 30, 0, 29) : new ShirtButtons();
            settingEnd("highest", high, s, HIGHEST[s], HIGHEST[s] + 1);
        }
        ShirtButtons x = new ShirtButtons();
        due("set(-1, 5)", x.set(-1, 5), UNKNOWN);
        due("set(8, 5)", x.set(8, 5), UNKNOWN);
        due("set(8, 99)", x.set(8, 99), UNKNOWN);
        check.totals("no setting changed", x, 0, FIRST);
    }

    private static void settingEnd(String which, ShirtButtons x, int setting, int end, int beyond) {
        String what = which + " of setting " + setting;
        int before = x.total(setting);
        due("beyond the " + what, x.set(setting, beyond), OUT_OF_RANGE);
        due("it stays", x.total(setting), before);
        due("the " + what, x.set(setting, end), before == end ? NONE : before);
        due("it is", x.total(setting), end);
        due("the " + what + " again", x.set(setting, end), NONE);
        due("beyond the " + what + ", from there", x.set(setting, beyond), OUT_OF_RANGE);
        due("it is still", x.total(setting), end);
    }

    private static void firstValues() {
        ShirtButtons x = new ShirtButtons();
        for (int s = 0; s < 8; s++) {
            due("first value of " + s, x.total(s), FIRST[s]);
            due("set to the first value " + s, x.set(s, FIRST[s]), NONE);
            due("set to another one " + s, x.set(s, FIRST[s] - 1), FIRST[s]);
            due("set back " + s, x.set(s, FIRST[s]), FIRST[s] - 1);
        }
    }

    /** "0 to 2 the meshes 0 to 2 (1 to 30; ...), each at most the next one" */
    private static void meshesInOrder() {
        int[][] cases = {{0, 15, 10}, {0, 16, NOT_POSSIBLE}, {0, 30, NOT_POSSIBLE}, {0, 1, 10}, {0, 0, OUT_OF_RANGE},
            {0, 31, OUT_OF_RANGE}, {1, 10, 15}, {1, 9, NOT_POSSIBLE}, {1, 1, NOT_POSSIBLE}, {1, 0, OUT_OF_RANGE},
            {1, 22, 15}, {1, 23, NOT_POSSIBLE}, {1, 30, NOT_POSSIBLE}, {1, 31, OUT_OF_RANGE}, {2, 15, 22},
            {2, 14, NOT_POSSIBLE}, {2, 1, NOT_POSSIBLE}, {2, 0, OUT_OF_RANGE}, {2, 30, 22}, {2, 31, OUT_OF_RANGE}};
        for (int[] one : cases) {
            ShirtButtons x = new ShirtButtons();
            due("set(" + one[0] + ", " + one[1] + ")", x.set(one[0], one[1]), one[2]);
            due("the mesh then", x.total(one[0]), one[2] < 0 ? FIRST[one[0]] : one[1]);
        }
        ShirtButtons x = Check.withSettings(0, 15, 2, 15);
        due("like meshes: mesh 1 up", x.set(1, 16), NOT_POSSIBLE);
        due("like meshes: mesh 1 down", x.set(1, 14), NOT_POSSIBLE);
        due("like meshes: mesh 1 as it is", x.set(1, 15), NONE);
        due("like meshes: mesh 0 up", x.set(0, 16), NOT_POSSIBLE);
        due("like meshes: mesh 2 down", x.set(2, 14), NOT_POSSIBLE);
        due("like meshes: mesh 0 down", x.set(0, 14), 15);
        due("like meshes: mesh 2 up", x.set(2, 16), 15);
        due("CHIPS has no next one", x.set(CHIPS, 9), 4);
        due("PULL isn't held by CHIPS", x.set(PULL, 1), 6);
        due("CHIPS isn't held by mesh 2", x.set(CHIPS, 0), 9);
    }

    private static void ifMeshRanges() {
        ShirtButtons x = Check.withSettings(0, 1, 2, 30);
        Check.bring(x, "1h9");
        int[][] cases = {{-1, 9, 0, UNKNOWN}, {3, 9, 0, UNKNOWN}, {3, 31, 7, UNKNOWN}, {0, 0, 0, OUT_OF_RANGE},
            {0, 1, 5, 1}, {2, 30, 5, 1}, {2, 31, 5, OUT_OF_RANGE}, {0, 31, 5, OUT_OF_RANGE}, {1, 0, 5, OUT_OF_RANGE},
            {1, 1, 5, 1}, {1, 30, 5, 1}, {1, 31, 5, OUT_OF_RANGE}, {2, 0, 5, OUT_OF_RANGE}, {1, 15, -1, OUT_OF_RANGE},
            {1, 15, 0, 0}, {1, 15, 6, 0}, {1, 15, 7, OUT_OF_RANGE}, {0, 30, 7, OUT_OF_RANGE}, {0, 30, 6, NOT_POSSIBLE}};
        for (int[] one : cases) {
            due("ifMesh(" + one[0] + ", " + one[1] + ", " + one[2] + ")", x.ifMesh(one[0], one[1], one[2]), one[3]);
        }
    }

    private static void ifMeshMeshesInOrder() {
        ShirtButtons x = Check.with("1h15");
        int[][] cases = {{0, 15, 1}, {0, 16, NOT_POSSIBLE}, {1, 9, NOT_POSSIBLE}, {1, 10, 1}, {1, 22, 1},
            {1, 23, NOT_POSSIBLE}, {2, 14, NOT_POSSIBLE}, {2, 15, 1}, {0, 10, 1}};
        for (int[] one : cases) {
            due("ifMesh(" + one[0] + ", " + one[1] + ", 5)", x.ifMesh(one[0], one[1], 5), one[2]);
        }
        x = new ShirtButtons();
        for (int place = 0; place <= 6; place++) {
            due("ifMesh with nothing in the hopper, " + place, x.ifMesh(0, 5, place), 0);
        }
    }

    /** "what sorting all that is in the hopper would bring, each button once" */
    private static void ifMeshEachOnce() {
        ShirtButtons x = Check.withSettings(ROOM, 0, CHIPS, 0);
        Check.bring(x, "1h9,1h9");
        due("rubbed, and back", x.ifMesh(0, 9, 0), 2);
        due("none twice", x.ifMesh(0, 9, 1), 0);
        x = Check.withSettings(ROOM, 20);
        Check.bringLike(x, "1h11", 40);
        due("40 in the hopper, one bin", x.ifMesh(0, 9, 5), 20);
        due("the others are back", x.ifMesh(0, 9, 0), 20);
        due("none is too large", x.ifMesh(2, 15, 4), 0);
        x.set(0, 1);
        x.set(1, 1);
        due("all are too large", x.ifMesh(2, 10, 4), 40);
        due("none is", x.ifMesh(2, 11, 4), 0);
        due("nothing was sorted", x.total(18), 0);
        due("the mesh stays", x.total(2), 22);
    }

    private static ShirtButtons mixed() {
        ShirtButtons x = Check.withSettings(ROOM, 2, HOLD, 2);
        Check.bring(x, "1h9,1h11i6,1h30,1h9c9,2h9");
        x.sort(5);
        x.shirt(1, 1);
        Check.bring(x, "1h9,1h10,1h11,1h15,1h16", "1h22,1h23,1h9i9,1h9i6,1h9i7", "1h12,1h13,1h9c5");
        return x;
    }

    private static void ifMeshAsSortingWould() {
        int[][] meshes = {{0, 9}, {0, 10}, {0, 11}, {0, 15}, {1, 12}, {1, 16}, {1, 22}, {2, 15}, {2, 23}, {2, 30}};
        ShirtButtons asked = mixed();
        for (int[] one : meshes) {
            ShirtButtons done = mixed();
            done.set(one[0], one[1]);
            due("sorted", done.sort(13), 13);
            for (int place = 0; place <= 6; place++) {
                due("ifMesh(" + one[0] + ", " + one[1] + ", " + place + ")", asked.ifMesh(one[0], one[1], place),
                    done.total(9 + place));
            }
        }
        check.due("nothing changed", Twins.state(asked), Twins.state(mixed()));
    }
}
