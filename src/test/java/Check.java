import java.util.Objects;

/** What the tests share: counting wrong answers, and giving a machine its text. */
final class Check {
    private final String test;
    private int wrong = 0;
    private int asked = 0;

    Check(String test) {
        this.test = test;
    }

    void due(String what, Object got, Object want) {
        asked++;
        if (!Objects.equals(got, want)) {
            wrong++;
            System.out.println(test + ": " + what + " answered " + got + ", due is " + want);
        }
    }

    boolean isWrong() {
        return wrong > 0;
    }

    void end() {
        System.out.println(test + ": " + asked + " answers, " + wrong + " wrong");
        if (wrong > 0) {
            System.exit(1);
        }
    }

    static void write(ShirtButtons machine, String text) {
        machine.clearText();
        for (char sign : text.toCharArray()) {
            machine.type(sign);
        }
    }

    /** A machine into which the buttons of these texts came. */
    static ShirtButtons with(String... texts) {
        ShirtButtons machine = new ShirtButtons();
        bring(machine, texts);
        return machine;
    }

    static void bring(ShirtButtons machine, String... texts) {
        for (String text : texts) {
            write(machine, text);
            int came = machine.read();
            if (came < 1) {
                throw new IllegalStateException("read() of \"" + text + "\" answered " + came);
            }
        }
        machine.clearText();
    }

    /** As above, and sorted once each. */
    static ShirtButtons sorted(String... texts) {
        ShirtButtons machine = with(texts);
        machine.sort(Math.max(1, machine.total(9)));
        return machine;
    }
}
