import java.util.ArrayDeque;
import java.util.ArrayList;
import java.util.Comparator;
import java.util.Deque;
import java.util.List;
import java.util.regex.Matcher;
import java.util.regex.Pattern;

/** The document told once more, as plainly as can be and without a thought of speed or room. */
final class Model {
    private static final Pattern BUTTON =
        Pattern.compile("([1-4])h([1-9]|[12][0-9]|30)(?:i([0-9]))?(?:c([0-9]))?(?:s([0-9]))?");
    private static final Pattern TEXT = Pattern.compile(BUTTON + "(?:," + BUTTON + ")*");
    private static final int[] LOW = {1, 1, 1, 0, 1, 1, 0, 0};
    private static final int[] HIGH = {30, 30, 30, 9, 10, 9, 20, 9};

    private static final class Button {
        int number;
        int holes;
        int size;
        int iron;
        int chips;
        int shine;
        int place = 0;
        int bin = -5;
        int shirt = -5;
        int sorted = 0;

        Button copy() {
            Button other = new Button();
            other.number = number;
            other.holes = holes;
            other.size = size;
            other.iron = iron;
            other.chips = chips;
            other.shine = shine;
            other.place = place;
            other.bin = bin;
            other.shirt = shirt;
            other.sorted = sorted;
            return other;
        }
    }

    private static final class World {
        List<Button> all = new ArrayList<>();
        List<Integer> hopper = new ArrayList<>();
        int[] settings = {10, 15, 22, 4, 6, 3, 10, 2};
        int shirts = 0;
        int worth = 0;
        int sorted = 0;
        int back = 0;
        int rubbed = 0;

        World copy() {
            World other = new World();
            for (Button b : all) {
                other.all.add(b.copy());
            }
            other.hopper.addAll(hopper);
            other.settings = settings.clone();
            other.shirts = shirts;
            other.worth = worth;
            other.sorted = sorted;
            other.back = back;
            other.rubbed = rubbed;
            return other;
        }

        int at(int place) {
            return (int) all.stream().filter(b -> b.place == place).count();
        }

        List<Button> bin(int bin) {
            List<Button> those = new ArrayList<>(all.stream().filter(b -> b.place == 5 && b.bin == bin).toList());
            those.sort(Comparator.<Button>comparingInt(b -> b.shine).thenComparingInt(b -> b.number));
            return those;
        }

        void letGo() {
            all.stream().filter(b -> b.place == 2).forEach(b -> b.place = 3);
        }

        int sortFirst() {
            Button b = all.get(hopper.remove(0));
            b.sorted++;
            sorted++;
            if (b.chips > settings[3]) {
                return b.place = 1;
            }
            if (b.iron >= settings[4]) {
                b.place = 2;
                if (at(2) >= settings[5]) {
                    letGo();
                }
                return b.place;
            }
            if (b.size > settings[2]) {
                return b.place = 4;
            }
            int kind = b.size <= settings[0] ? 0 : b.size <= settings[1] ? 1 : 2;
            if (b.size == settings[kind]) {
                b.chips = Math.min(9, b.chips + 1);
                rubbed++;
            }
            int bin = 4 * kind + b.holes - 1;
            if (bin(bin).size() < settings[6]) {
                b.bin = bin;
                return b.place = 5;
            }
            hopper.add(b.number);
            back++;
            return 0;
        }

        /** The buttons of a shirt, or null if it gets none. */
        List<Button> shirt(int bin, int many, int spread) {
            List<Button> row = bin(bin);
            for (int i = 0; i + many <= row.size(); i++) {
                List<Button> some = row.subList(i, i + many);
                if (some.get(many - 1).shine - some.get(0).shine <= spread) {
                    return some;
                }
            }
            return null;
        }

        int make(List<Button> some) {
            int value = 0;
            for (Button b : some) {
                b.place = 6;
                b.bin = -5;
                b.shirt = shirts;
                value += b.shine - b.chips;
            }
            shirts++;
            worth += Math.max(0, value);
            return Math.max(0, value);
        }

        boolean meshesFit(int setting, int value) {
            int[] then = settings.clone();
            then[setting] = value;
            return then[0] <= then[1] && then[1] <= then[2];
        }
    }

    private World now = new World();
    private World snapshot = null;
    private final Deque<World> history = new ArrayDeque<>();
    private final StringBuilder text = new StringBuilder();

    private void record() {
        history.addLast(now.copy());
        if (history.size() > 4) {
            history.removeFirst();
        }
    }

    private static boolean mayBegin(String begun) {
        Matcher matcher = TEXT.matcher(begun);
        return matcher.matches() || matcher.hitEnd();
    }

    private int fault() {
        if (TEXT.matcher(text).matches()) {
            return -1;
        }
        int good = 0;
        while (good < text.length() && mayBegin(text.substring(0, good + 1))) {
            good++;
        }
        return good;
    }

    private static int part(String digits) {
        return digits == null ? 0 : Integer.parseInt(digits);
    }

    int read() {
        int fault = fault();
        if (fault >= 0) {
            return -100 - fault;
        }
        String[] each = text.toString().split(",");
        if (now.all.size() + each.length > 40) {
            return -3;
        }
        record();
        for (String one : each) {
            Matcher matcher = BUTTON.matcher(one);
            matcher.matches();
            Button b = new Button();
            b.number = now.all.size();
            b.holes = part(matcher.group(1));
            b.size = part(matcher.group(2));
            b.iron = part(matcher.group(3));
            b.chips = part(matcher.group(4));
            b.shine = part(matcher.group(5));
            now.all.add(b);
            now.hopper.add(b.number);
        }
        return each.length;
    }

    int sort(int many) {
        if (many < 1 || many > 99) {
            return -2;
        }
        if (now.hopper.isEmpty()) {
            return -5;
        }
        record();
        int done = 0;
        for (; done < many && !now.hopper.isEmpty(); done++) {
            now.sortFirst();
        }
        return done;
    }

    int letGo() {
        int held = now.at(2);
        if (held == 0) {
            return -5;
        }
        record();
        now.letGo();
        return held;
    }

    private static boolean bad(int value, int low, int high) {
        return value < low || value > high;
    }

    int pour(int bin) {
        if (bad(bin, 0, 11)) {
            return -1;
        }
        int count = now.bin(bin).size();
        if (count == 0) {
            return -5;
        }
        record();
        for (Button b : now.all) {
            if (b.place == 5 && b.bin == bin) {
                b.place = 0;
                b.bin = -5;
                now.hopper.add(b.number);
            }
        }
        return count;
    }

    int shirt(int bin, int many) {
        int reason = reason(bin, many);
        if (reason != 0) {
            return reason < 0 ? reason : -10 - reason;
        }
        record();
        return now.make(now.shirt(bin, many, now.settings[7]));
    }

    int polish(int button) {
        if (bad(button, 0, now.all.size() - 1)) {
            return -1;
        }
        Button b = now.all.get(button);
        if (b.place == 6 || b.shine == 9) {
            return -4;
        }
        record();
        b.chips = Math.max(0, b.chips - 1);
        return ++b.shine;
    }

    int set(int setting, int value) {
        if (bad(setting, 0, 7)) {
            return -1;
        }
        if (bad(value, LOW[setting], HIGH[setting])) {
            return -2;
        }
        if (!now.meshesFit(setting, value)) {
            return -4;
        }
        int before = now.settings[setting];
        if (before == value) {
            return -5;
        }
        record();
        now.settings[setting] = value;
        return before;
    }

    int type(char character) {
        if (text.length() == 60) {
            return -3;
        }
        return text.append(character).length();
    }

    int clearText() {
        int before = text.length();
        text.setLength(0);
        return before;
    }

    int undo() {
        if (history.isEmpty()) {
            return -5;
        }
        now = history.removeLast();
        return history.size();
    }

    int keep() {
        snapshot = now.copy();
        return now.all.size();
    }

    int restore() {
        if (snapshot == null) {
            return -5;
        }
        record();
        now = snapshot.copy();
        return now.all.size();
    }

    int button(int button, int what) {
        if (bad(button, 0, now.all.size() - 1)) {
            return -1;
        }
        if (bad(what, 0, 9)) {
            return -2;
        }
        Button b = now.all.get(button);
        int rank = now.hopper.indexOf(button);
        int[] answers = {b.holes, b.size, b.iron, b.chips, b.shine, b.place, b.bin, rank < 0 ? -5 : rank, b.shirt, b.sorted};
        return answers[what];
    }

    int inBin(int bin, int rank) {
        if (bad(bin, 0, 11)) {
            return -1;
        }
        if (rank < 0) {
            return -2;
        }
        List<Button> row = now.bin(bin);
        return rank < row.size() ? row.get(rank).number : -5;
    }

    int bin(int bin, int what) {
        if (bad(bin, 0, 11)) {
            return -1;
        }
        if (bad(what, 0, 4)) {
            return -2;
        }
        List<Button> row = now.bin(bin);
        int most = 0;
        for (int many = 1; many <= 9; many++) {
            most = now.shirt(bin, many, now.settings[7]) == null ? most : many;
        }
        int width = row.isEmpty() ? 0 : row.get(row.size() - 1).shine - row.get(0).shine;
        int sum = row.stream().mapToInt(b -> b.shine).sum();
        return new int[] {row.size(), Math.max(0, now.settings[6] - row.size()), sum, most, width}[what];
    }

    int total(int what) {
        if (bad(what, 0, 23)) {
            return -2;
        }
        int chips = now.all.stream().mapToInt(b -> b.chips).sum();
        if (what < 8) {
            return now.settings[what];
        }
        if (what >= 9 && what <= 15) {
            return now.at(what - 9);
        }
        int[] answers = {now.shirts, now.worth, now.sorted, now.back, now.rubbed, chips, history.size(), text.length()};
        return what == 8 ? now.all.size() : answers[what - 16];
    }

    int goesTo(int button) {
        if (bad(button, 0, now.all.size() - 1)) {
            return -1;
        }
        if (now.all.get(button).place != 0) {
            return -4;
        }
        World other = now.copy();
        other.hopper.remove((Integer) button);
        other.hopper.add(0, button);
        return other.sortFirst();
    }

    int reason(int bin, int many) {
        if (bad(bin, 0, 11)) {
            return -1;
        }
        if (bad(many, 1, 9)) {
            return -2;
        }
        if (now.bin(bin).size() < many) {
            return 1;
        }
        return now.shirt(bin, many, now.settings[7]) == null ? 2 : 0;
    }

    int leastSpread(int bin, int many) {
        if (bad(bin, 0, 11)) {
            return -1;
        }
        if (bad(many, 1, 9)) {
            return -2;
        }
        for (int spread = 0; spread <= 9; spread++) {
            if (now.shirt(bin, many, spread) != null) {
                return spread;
            }
        }
        return -5;
    }

    int shirts(int many) {
        if (bad(many, 1, 9)) {
            return -2;
        }
        World other = now.copy();
        int before = other.shirts;
        for (int bin = 0; bin < 12; bin++) {
            List<Button> some = other.shirt(bin, many, other.settings[7]);
            while (some != null) {
                other.make(some);
                some = other.shirt(bin, many, other.settings[7]);
            }
        }
        return other.shirts - before;
    }

    int ifMesh(int mesh, int value, int what) {
        if (bad(mesh, 0, 2)) {
            return -1;
        }
        if (bad(value, 1, 30) || bad(what, 0, 6)) {
            return -2;
        }
        if (!now.meshesFit(mesh, value)) {
            return -4;
        }
        World other = now.copy();
        other.settings[mesh] = value;
        for (int i = now.hopper.size(); i > 0; i--) {
            other.sortFirst();
        }
        return other.at(what);
    }
}
