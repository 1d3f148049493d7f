/** A machine that sorts buttons for shirts; the document ../shared/DOC.md says what it promises. */
public final class ShirtButtons {
    public static final int UNKNOWN = -1;
    public static final int OUT_OF_RANGE = -2;
    public static final int FULL = -3;
    public static final int NOT_POSSIBLE = -4;
    public static final int NONE = -5;
    public static final int REFUSED = -10;

    private static final int FAULT = -100;

    private static final int MOST_BUTTONS = 40;
    private static final int MOST_AT_ONCE = 99;
    private static final int MOST_WANTED = 9;
    private static final int MOST_CHIPS = 9;
    private static final int MOST_SHINE = 9;
    private static final int MOST_STATES = 4;
    private static final int LONGEST_TEXT = 60;
    // The shortest button has 3 characters, and a "," stands before the next one.
    private static final int MOST_IN_TEXT = 15;

    private static final int HOPPER = 0;
    private static final int WASTE = 1;
    private static final int MAGNET = 2;
    private static final int IRON_BOX = 3;
    private static final int TOO_LARGE = 4;
    private static final int IN_BIN = 5;
    private static final int ON_SHIRT = 6;
    private static final int PLACES = 7;

    private static final int BINS = 12;
    private static final int HOLE_KINDS = 4;

    private static final int MESHES = 3;
    private static final int LAST_MESH = 2;
    private static final int CHIPS = 3;
    private static final int PULL = 4;
    private static final int HOLD = 5;
    private static final int ROOM = 6;
    private static final int SPREAD = 7;
    private static final int SETTINGS = 8;
    private static final int[] LOWEST = {1, 1, 1, 0, 1, 1, 0, 0};
    private static final int[] HIGHEST = {30, 30, 30, 9, 10, 9, 20, 9};
    private static final int[] FIRST = {10, 15, 22, 4, 6, 3, 10, 2};

    private static final int TOO_FEW = 1;
    private static final int NOT_ALIKE = 2;

    private static final int LAST_OF_BUTTON = 9;
    private static final int LAST_OF_BIN = 4;
    private static final int LAST_TOTAL = 23;
    private static final int TOTAL_PLACES = 9;

    private final Text text = new Text();
    private final Batch batch = new Batch(text);
    private final Order order = new Order();
    private final History history = new History();
    private final State now = new State();
    private final State snapshot = new State();
    // What would be is tried here, so that the state itself needn't change.
    private final State trial = new State();
    private boolean hasSnapshot = false;

    public ShirtButtons() {
    }

    // ---- changes

    public int read() {
        int fault = batch.parse();
        if (fault != Batch.NO_FAULT) {
            return FAULT - fault;
        }
        if (now.buttons.count + batch.count > MOST_BUTTONS) {
            return FULL;
        }
        history.remember(now);
        for (int i = 0; i < batch.count; i++) {
            now.takeIn(batch, i);
        }
        return batch.count;
    }

    public int sort(int many) {
        if (many < 1 || many > MOST_AT_ONCE) {
            return OUT_OF_RANGE;
        }
        if (now.places.at[HOPPER] == 0) {
            return NONE;
        }
        history.remember(now);
        int done = 0;
        while (done < many && now.places.at[HOPPER] > 0) {
            now.sortFirst();
            done++;
        }
        return done;
    }

    public int letGo() {
        int held = now.places.at[MAGNET];
        if (held == 0) {
            return NONE;
        }
        history.remember(now);
        now.emptyMagnet();
        return held;
    }

    public int pour(int bin) {
        if (!isBin(bin)) {
            return UNKNOWN;
        }
        int poured = now.places.inBin[bin];
        if (poured == 0) {
            return NONE;
        }
        history.remember(now);
        now.emptyBin(bin);
        return poured;
    }

    public int shirt(int bin, int many) {
        if (!isBin(bin)) {
            return UNKNOWN;
        }
        if (!isWanted(many)) {
            return OUT_OF_RANGE;
        }
        order.fill(now, bin);
        int from = order.firstAlike(many, now.settings[SPREAD]);
        if (from < 0) {
            return REFUSED - refusalOf(many);
        }
        history.remember(now);
        return now.makeShirt(order, from, many);
    }

    public int polish(int button) {
        if (!now.buttons.has(button)) {
            return UNKNOWN;
        }
        if (now.places.place[button] == ON_SHIRT || now.buttons.shine[button] >= MOST_SHINE) {
            return NOT_POSSIBLE;
        }
        history.remember(now);
        now.buttons.brighten(button);
        return now.buttons.shine[button];
    }

    public int set(int setting, int value) {
        if (setting < 0 || setting >= SETTINGS) {
            return UNKNOWN;
        }
        if (!isValue(setting, value)) {
            return OUT_OF_RANGE;
        }
        if (!now.meshesAllow(setting, value)) {
            return NOT_POSSIBLE;
        }
        int before = now.settings[setting];
        if (before == value) {
            return NONE;
        }
        history.remember(now);
        now.settings[setting] = value;
        return before;
    }

    // ---- texts

    public int type(char character) {
        return text.append(character) ? text.length : FULL;
    }

    public int clearText() {
        int before = text.length;
        text.length = 0;
        return before;
    }

    // ---- history

    public int undo() {
        return history.takeBack(now) ? history.count : NONE;
    }

    public int keep() {
        snapshot.copyFrom(now);
        hasSnapshot = true;
        return now.buttons.count;
    }

    public int restore() {
        if (!hasSnapshot) {
            return NONE;
        }
        history.remember(now);
        now.copyFrom(snapshot);
        return now.buttons.count;
    }

    // ---- what there is

    public int button(int button, int what) {
        if (!now.buttons.has(button)) {
            return UNKNOWN;
        }
        if (what < 0 || what > LAST_OF_BUTTON) {
            return OUT_OF_RANGE;
        }
        switch (what) {
            case 0:
                return now.buttons.holes[button];
            case 1:
                return now.buttons.size[button];
            case 2:
                return now.buttons.iron[button];
            case 3:
                return now.buttons.chips[button];
            case 4:
                return now.buttons.shine[button];
            case 5:
                return now.places.place[button];
            case 6:
                return now.places.binOf[button];
            case 7:
                return now.places.rankInHopper(button);
            case 8:
                return now.places.shirtOf[button];
            default:
                return now.buttons.sortings[button];
        }
    }

    public int inBin(int bin, int rank) {
        if (!isBin(bin)) {
            return UNKNOWN;
        }
        if (rank < 0) {
            return OUT_OF_RANGE;
        }
        order.fill(now, bin);
        return order.numberAt(rank);
    }

    public int bin(int bin, int what) {
        if (!isBin(bin)) {
            return UNKNOWN;
        }
        if (what < 0 || what > LAST_OF_BIN) {
            return OUT_OF_RANGE;
        }
        order.fill(now, bin);
        switch (what) {
            case 0:
                return order.count;
            case 1:
                return Math.max(now.settings[ROOM] - order.count, 0);
            case 2:
                return order.shineSum();
            case 3:
                return order.mostAlike(now.settings[SPREAD]);
            default:
                return order.count == 0 ? 0 : order.narrowest(order.count);
        }
    }

    public int total(int what) {
        if (what < 0 || what > LAST_TOTAL) {
            return OUT_OF_RANGE;
        }
        if (what < SETTINGS) {
            return now.settings[what];
        }
        if (what >= TOTAL_PLACES && what < TOTAL_PLACES + PLACES) {
            return now.places.at[what - TOTAL_PLACES];
        }
        switch (what) {
            case 8:
                return now.buttons.count;
            case 16:
                return now.shirtsMade;
            case 17:
                return now.worthMade;
            case 18:
                return now.sortingsDone;
            case 19:
                return now.goneBack;
            case 20:
                return now.rubbed;
            case 21:
                return now.buttons.chipSum();
            case 22:
                return history.count;
            default:
                return text.length;
        }
    }

    // ---- what would be; nothing changes

    public int goesTo(int button) {
        if (!now.buttons.has(button)) {
            return UNKNOWN;
        }
        if (now.places.place[button] != HOPPER) {
            return NOT_POSSIBLE;
        }
        return now.placeFor(button);
    }

    public int reason(int bin, int many) {
        if (!isBin(bin)) {
            return UNKNOWN;
        }
        if (!isWanted(many)) {
            return OUT_OF_RANGE;
        }
        order.fill(now, bin);
        return refusalOf(many);
    }

    public int leastSpread(int bin, int many) {
        if (!isBin(bin)) {
            return UNKNOWN;
        }
        if (!isWanted(many)) {
            return OUT_OF_RANGE;
        }
        order.fill(now, bin);
        return order.count < many ? NONE : order.narrowest(many);
    }

    public int shirts(int many) {
        if (!isWanted(many)) {
            return OUT_OF_RANGE;
        }
        int made = 0;
        for (int bin = 0; bin < BINS; bin++) {
            order.fill(now, bin);
            made += order.groups(many, now.settings[SPREAD]);
        }
        return made;
    }

    public int ifMesh(int mesh, int value, int what) {
        if (mesh < 0 || mesh >= MESHES) {
            return UNKNOWN;
        }
        if (!isValue(mesh, value) || !isPlace(what)) {
            return OUT_OF_RANGE;
        }
        if (!now.meshesAllow(mesh, value)) {
            return NOT_POSSIBLE;
        }
        trial.copyFrom(now);
        trial.settings[mesh] = value;
        // Those that go back wait behind all the others, so this many turns take each button once.
        int turns = trial.places.at[HOPPER];
        for (int i = 0; i < turns; i++) {
            trial.sortFirst();
        }
        return trial.places.at[what];
    }

    // ---- what several calls ask

    private static boolean isBin(int bin) {
        return bin >= 0 && bin < BINS;
    }

    private static boolean isPlace(int place) {
        return place >= 0 && place < PLACES;
    }

    private static boolean isWanted(int many) {
        return many >= 1 && many <= MOST_WANTED;
    }

    private static boolean isValue(int setting, int value) {
        return value >= LOWEST[setting] && value <= HIGHEST[setting];
    }

    /** Why a shirt would get none of the bin that stands in the order, 0 if it would get some. */
    private int refusalOf(int many) {
        if (order.count < many) {
            return TOO_FEW;
        }
        return order.firstAlike(many, now.settings[SPREAD]) >= 0 ? 0 : NOT_ALIKE;
    }

    /** The text; what is behind its length is left from earlier. */
    private static final class Text {
        final char[] signs = new char[LONGEST_TEXT];
        int length = 0;

        boolean append(char sign) {
            if (length >= LONGEST_TEXT) {
                return false;
            }
            signs[length] = sign;
            length++;
            return true;
        }
    }

    /** The buttons that a text tells of, before they come. */
    private static final class Batch {
        static final int NO_FAULT = -1;

        final int[] holes = new int[MOST_IN_TEXT];
        final int[] size = new int[MOST_IN_TEXT];
        final int[] iron = new int[MOST_IN_TEXT];
        final int[] chips = new int[MOST_IN_TEXT];
        final int[] shine = new int[MOST_IN_TEXT];
        int count = 0;
        private final Text source;
        private int at = 0;

        Batch(Text source) {
            this.source = source;
        }

        /** Takes the buttons of the text, and returns its fault. */
        int parse() {
            at = 0;
            count = 0;
            for (int i = 0; i < MOST_IN_TEXT; i++) {
                if (!takeButton(i)) {
                    return at;
                }
                count++;
                if (at >= source.length) {
                    return NO_FAULT;
                }
                if (!takeSign(',')) {
                    return at;
                }
            }
            // So many buttons and a "," after each fill the text: it ends too early.
            return at;
        }

        private boolean takeButton(int i) {
            holes[i] = takeDigit(1, HOLE_KINDS);
            if (holes[i] < 0 || !takeSign('h')) {
                return false;
            }
            size[i] = takeSize();
            if (size[i] < 0) {
                return false;
            }
            iron[i] = takePart('i');
            if (iron[i] < 0) {
                return false;
            }
            chips[i] = takePart('c');
            if (chips[i] < 0) {
                return false;
            }
            shine[i] = takePart('s');
            return shine[i] >= 0;
        }

        /** The value of a part that may be missing, -1 if only its digit is. */
        private int takePart(char name) {
            return takeSign(name) ? takeDigit(0, 9) : 0;
        }

        private int takeSize() {
            int tens = takeDigit(1, 9);
            if (tens < 0 || tens > 3) {
                return tens;
            }
            int ones = takeDigit(0, tens == 3 ? 0 : 9);
            return ones < 0 ? tens : 10 * tens + ones;
        }

        private boolean takeSign(char wanted) {
            if (at >= source.length || source.signs[at] != wanted) {
                return false;
            }
            at++;
            return true;
        }

        private int takeDigit(int low, int high) {
            if (at >= source.length) {
                return -1;
            }
            int digit = source.signs[at] - '0';
            if (digit < low || digit > high) {
                return -1;
            }
            at++;
            return digit;
        }
    }

    /** What each button is like; rows by the numbers of the buttons. */
    private static final class Buttons {
        final int[] holes = new int[MOST_BUTTONS];
        final int[] size = new int[MOST_BUTTONS];
        final int[] iron = new int[MOST_BUTTONS];
        final int[] chips = new int[MOST_BUTTONS];
        final int[] shine = new int[MOST_BUTTONS];
        final int[] sortings = new int[MOST_BUTTONS];
        int count = 0;

        boolean has(int button) {
            return button >= 0 && button < count;
        }

        void brighten(int button) {
            shine[button]++;
            if (chips[button] > 0) {
                chips[button]--;
            }
        }

        void chip(int button) {
            if (chips[button] < MOST_CHIPS) {
                chips[button]++;
            }
        }

        int chipSum() {
            int sum = 0;
            for (int i = 0; i < count; i++) {
                sum += chips[i];
            }
            return sum;
        }

        void copyFrom(Buttons other) {
            count = other.count;
            System.arraycopy(other.holes, 0, holes, 0, MOST_BUTTONS);
            System.arraycopy(other.size, 0, size, 0, MOST_BUTTONS);
            System.arraycopy(other.iron, 0, iron, 0, MOST_BUTTONS);
            System.arraycopy(other.chips, 0, chips, 0, MOST_BUTTONS);
            System.arraycopy(other.shine, 0, shine, 0, MOST_BUTTONS);
            System.arraycopy(other.sortings, 0, sortings, 0, MOST_BUTTONS);
        }
    }

    /** Where each button is; how many are at a place and in a bin is counted along. */
    private static final class Places {
        final int[] place = new int[MOST_BUTTONS];
        final int[] binOf = new int[MOST_BUTTONS];
        final int[] shirtOf = new int[MOST_BUTTONS];
        final int[] hopper = new int[MOST_BUTTONS];
        final int[] at = new int[PLACES];
        final int[] inBin = new int[BINS];

        /** Takes the first one out of the hopper, NONE if it is empty. */
        int takeFirst() {
            if (at[HOPPER] < 1) {
                return NONE;
            }
            int first = hopper[0];
            leave(first);
            System.arraycopy(hopper, 1, hopper, 0, MOST_BUTTONS - 1);
            return first;
        }

        /** To be followed by a call that brings the button to another place. */
        void leave(int button) {
            if (!isNumber(button)) {
                return;
            }
            if (isPlace(place[button])) {
                at[place[button]]--;
            }
            if (isBin(binOf[button])) {
                inBin[binOf[button]]--;
            }
        }

        void bringToHopper(int button) {
            int rank = at[HOPPER];
            if (rank < 0 || rank >= MOST_BUTTONS) {
                return;
            }
            hopper[rank] = button;
            bring(button, HOPPER);
        }

        void bringToBin(int button, int bin) {
            put(button, IN_BIN, bin, NONE);
        }

        void bringToShirt(int button, int number) {
            put(button, ON_SHIRT, NONE, number);
        }

        void bring(int button, int where) {
            put(button, where, NONE, NONE);
        }

        private void put(int button, int where, int bin, int shirt) {
            if (!isNumber(button) || !isPlace(where)) {
                return;
            }
            place[button] = where;
            binOf[button] = bin;
            shirtOf[button] = shirt;
            at[where]++;
            if (isBin(bin)) {
                inBin[bin]++;
            }
        }

        private static boolean isNumber(int button) {
            return button >= 0 && button < MOST_BUTTONS;
        }

        int rankInHopper(int button) {
            for (int i = 0; i < MOST_BUTTONS && i < at[HOPPER]; i++) {
                if (hopper[i] == button) {
                    return i;
                }
            }
            return NONE;
        }

        void copyFrom(Places other) {
            System.arraycopy(other.place, 0, place, 0, MOST_BUTTONS);
            System.arraycopy(other.binOf, 0, binOf, 0, MOST_BUTTONS);
            System.arraycopy(other.shirtOf, 0, shirtOf, 0, MOST_BUTTONS);
            System.arraycopy(other.hopper, 0, hopper, 0, MOST_BUTTONS);
            System.arraycopy(other.at, 0, at, 0, PLACES);
            System.arraycopy(other.inBin, 0, inBin, 0, BINS);
        }
    }

    /** All that undo and restore bring back. */
    private static final class State {
        final Buttons buttons = new Buttons();
        final Places places = new Places();
        final int[] settings = FIRST.clone();
        int shirtsMade = 0;
        int worthMade = 0;
        int sortingsDone = 0;
        int goneBack = 0;
        int rubbed = 0;

        void takeIn(Batch batch, int i) {
            int button = buttons.count;
            if (button >= MOST_BUTTONS) {
                return;
            }
            buttons.holes[button] = batch.holes[i];
            buttons.size[button] = batch.size[i];
            buttons.iron[button] = batch.iron[i];
            buttons.chips[button] = batch.chips[i];
            buttons.shine[button] = batch.shine[i];
            buttons.sortings[button] = 0;
            buttons.count++;
            places.bringToHopper(button);
        }

        /** Where the first of the hopper is brought: HOPPER if it goes back, IRON_BOX if by way of the magnet. */
        int placeFor(int button) {
            if (buttons.chips[button] > settings[CHIPS]) {
                return WASTE;
            }
            if (buttons.iron[button] >= settings[PULL]) {
                return places.at[MAGNET] + 1 >= settings[HOLD] ? IRON_BOX : MAGNET;
            }
            if (buttons.size[button] > settings[LAST_MESH]) {
                return TOO_LARGE;
            }
            return hasRoom(binFor(button)) ? IN_BIN : HOPPER;
        }

        private boolean hasRoom(int bin) {
            return isBin(bin) && places.inBin[bin] < settings[ROOM];
        }

        private int meshClass(int button) {
            int least = 0;
            while (least < LAST_MESH && settings[least] < buttons.size[button]) {
                least++;
            }
            return least;
        }

        private int binFor(int button) {
            return HOLE_KINDS * meshClass(button) + buttons.holes[button] - 1;
        }

        void sortFirst() {
            int button = places.takeFirst();
            if (!buttons.has(button)) {
                return;
            }
            buttons.sortings[button]++;
            sortingsDone++;
            int where = placeFor(button);
            switch (where) {
                case IRON_BOX:
                    places.bring(button, MAGNET);
                    emptyMagnet();
                    break;
                case IN_BIN:
                    rub(button);
                    places.bringToBin(button, binFor(button));
                    break;
                case HOPPER:
                    rub(button);
                    goneBack++;
                    places.bringToHopper(button);
                    break;
                default:
                    places.bring(button, where);
                    break;
            }
        }

        private void rub(int button) {
            if (buttons.size[button] == settings[meshClass(button)]) {
                rubbed++;
                buttons.chip(button);
            }
        }

        void emptyMagnet() {
            for (int i = 0; i < buttons.count; i++) {
                if (places.place[i] == MAGNET) {
                    places.leave(i);
                    places.bring(i, IRON_BOX);
                }
            }
        }

        void emptyBin(int bin) {
            for (int i = 0; i < buttons.count; i++) {
                if (places.binOf[i] == bin) {
                    places.leave(i);
                    places.bringToHopper(i);
                }
            }
        }

        /** Makes a shirt of so many buttons of the order, from a rank on that has them, and returns its worth. */
        int makeShirt(Order order, int from, int many) {
            int worth = 0;
            for (int i = 0; i < many; i++) {
                int button = order.numberAt(from + i);
                if (buttons.has(button)) {
                    worth += buttons.shine[button] - buttons.chips[button];
                    places.leave(button);
                    places.bringToShirt(button, shirtsMade);
                }
            }
            worth = Math.max(worth, 0);
            shirtsMade++;
            worthMade += worth;
            return worth;
        }

        boolean meshesAllow(int setting, int value) {
            if (setting >= MESHES) {
                return true;
            }
            if (setting > 0 && settings[setting - 1] > value) {
                return false;
            }
            return setting == LAST_MESH || value <= settings[setting + 1];
        }

        void copyFrom(State other) {
            buttons.copyFrom(other.buttons);
            places.copyFrom(other.places);
            System.arraycopy(other.settings, 0, settings, 0, SETTINGS);
            shirtsMade = other.shirtsMade;
            worthMade = other.worthMade;
            sortingsDone = other.sortingsDone;
            goneBack = other.goneBack;
            rubbed = other.rubbed;
        }
    }

    /** The buttons of one bin in the order of their shine, made anew for each call that asks for it. */
    private static final class Order {
        private final int[] numbers = new int[MOST_BUTTONS];
        private final int[] shine = new int[MOST_BUTTONS];
        int count = 0;

        void fill(State state, int bin) {
            count = 0;
            // No button is twice in it, so that the rows have room for all.
            for (int i = 0; i < MOST_BUTTONS && i < state.buttons.count; i++) {
                if (state.places.binOf[i] == bin) {
                    insert(i, state.buttons.shine[i]);
                }
            }
        }

        /** Behind those of like shine, as the numbers come in their order. */
        private void insert(int number, int itsShine) {
            int rank = count;
            while (rank > 0 && shine[rank - 1] > itsShine) {
                numbers[rank] = numbers[rank - 1];
                shine[rank] = shine[rank - 1];
                rank--;
            }
            numbers[rank] = number;
            shine[rank] = itsShine;
            count++;
        }

        /** The number at a rank, NONE behind the last one. */
        int numberAt(int rank) {
            return rank >= 0 && rank < count ? numbers[rank] : NONE;
        }

        private int spreadFrom(int rank, int many) {
            return shine[rank + many - 1] - shine[rank];
        }

        /** The rank of the first of so many that are alike enough, -1 if there are none. */
        int firstAlike(int many, int spread) {
            for (int rank = 0; rank + many <= count; rank++) {
                if (spreadFrom(rank, many) <= spread) {
                    return rank;
                }
            }
            return -1;
        }

        /** The least spread of so many, of which the bin must have at least as many. */
        int narrowest(int many) {
            int least = MOST_SHINE;
            for (int rank = 0; rank + many <= count; rank++) {
                least = Math.min(least, spreadFrom(rank, many));
            }
            return least;
        }

        int mostAlike(int spread) {
            for (int many = MOST_WANTED; many > 0; many--) {
                if (firstAlike(many, spread) >= 0) {
                    return many;
                }
            }
            return 0;
        }

        /** A button that no shirt can begin with now can't later: what is behind it only gets less like it. */
        int groups(int many, int spread) {
            int made = 0;
            int free = 0;
            for (int rank = 0; rank + many <= count; rank++) {
                if (rank >= free && spreadFrom(rank, many) <= spread) {
                    made++;
                    free = rank + many;
                }
            }
            return made;
        }

        int shineSum() {
            int sum = 0;
            for (int rank = 0; rank < count; rank++) {
                sum += shine[rank];
            }
            return sum;
        }
    }

    /** The latest states, the oldest one first; all rows are made at once and used again. */
    private static final class History {
        private final State[] states = new State[MOST_STATES];
        int count = 0;

        History() {
            for (int i = 0; i < MOST_STATES; i++) {
                states[i] = new State();
            }
        }

        void remember(State state) {
            if (count >= MOST_STATES) {
                dropOldest();
            }
            states[count].copyFrom(state);
            count++;
        }

        private void dropOldest() {
            State oldest = states[0];
            for (int i = 1; i < MOST_STATES; i++) {
                states[i - 1] = states[i];
            }
            states[MOST_STATES - 1] = oldest;
            count--;
        }

        /** Brings the latest state back, or returns false if there is none. */
        boolean takeBack(State state) {
            if (count <= 0) {
                return false;
            }
            count--;
            state.copyFrom(states[count]);
            return true;
        }
    }
}
