import java.util.Collections;
import java.util.Objects;

/** What the tests share: counting wrong answers, and giving a machine its text. */
final class Check {
    private final String test;
    private int wrong = 0;
    private int asked = 0;

    Check(String test) {
        this.test = test;
    }

    void due(String what, Object got, Object want) {
        asked++;
        if (!Objects.equals(got, want)) {
            wrong++;
            System.out.println(test + ": " + what + " answered " + got + ", due is " + want);
        }
    }

    /** What total answers for the numbers from this one on. */
    void totals(String what, ShirtButtons machine, int from, int... wants) {
        for (int i = 0; i < wants.length; i++) {
            due(what + ": total(" + (from + i) + ")", machine.total(from + i), wants[i]);
        }
    }

    void binIs(String what, ShirtButtons machine, int bin, int... wants) {
        for (int i = 0; i < wants.length; i++) {
            due(what + ": inBin(" + bin + ", " + i + ")", machine.inBin(bin, i), wants[i]);
        }
        due(what + ": inBin behind the last", machine.inBin(bin, wants.length), ShirtButtons.NONE);
    }

    void hopperIs(String what, ShirtButtons machine, int... wants) {
        due(what + ": hopper", machine.total(9), wants.length);
        for (int i = 0; i < wants.length; i++) {
            due(what + ": rank of " + wants[i], machine.button(wants[i], 7), i);
        }
    }

    /** The places of the buttons 0, 1, 2 and so on. */
    void placesAre(String what, ShirtButtons machine, int... wants) {
        for (int i = 0; i < wants.length; i++) {
            due(what + ": place of " + i, machine.button(i, 5), wants[i]);
        }
    }

    boolean isWrong() {
        return wrong > 0;
    }

    void end() {
        System.out.println(test + ": " + asked + " answers, " + wrong + " wrong");
        if (wrong > 0) {
            System.exit(1);
        }
    }

    static void write(ShirtButtons machine, String text) {
        machine.clearText();
        for (char sign : text.toCharArray()) {
            machine.type(sign);
        }
    }

    /** A machine into which the buttons of these texts came. */
    static ShirtButtons with(String... texts) {
        ShirtButtons machine = new ShirtButtons();
        bring(machine, texts);
        return machine;
    }

    static void bring(ShirtButtons machine, String... texts) {
        for (String text : texts) {
            write(machine, text);
            int came = machine.read();
            if (came < 1) {
                throw new IllegalStateException("read() of \"" + text + "\" answered " + came);
            }
        }
        machine.clearText();
    }

    /** As above, and sorted once each. */
    static ShirtButtons sorted(String... texts) {
        ShirtButtons machine = with(texts);
        machine.sort(Math.max(1, machine.total(9)));
        return machine;
    }

    /** A new machine with these settings: pairs of a setting and its value. */
    static ShirtButtons withSettings(int... pairs) {
        ShirtButtons machine = new ShirtButtons();
        for (int i = 0; i + 1 < pairs.length; i += 2) {
            int setting = pairs[i];
            int value = pairs[i + 1];
            machine.set(setting, value);
            if (machine.total(setting) != value) {
                throw new IllegalStateException("setting " + setting + " can't become " + value);
            }
        }
        return machine;
    }

    /** Brings so many buttons like this one, in as few texts as can be. */
    static void bringLike(ShirtButtons machine, String button, int many) {
        int mostInText = 61 / (button.length() + 1);
        for (int left = many; left > 0; left -= mostInText) {
            bring(machine, like(button, Math.min(left, mostInText)));
        }
    }

    static String like(String button, int many) {
        return String.join(",", Collections.nCopies(many, button));
    }
}
