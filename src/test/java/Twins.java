import java.util.function.Consumer;
import java.util.function.Function;
import java.util.function.Supplier;
import java.util.function.ToIntFunction;

/** Tells by machines of the same calls what one call more has changed, and what it hasn't. */
final class Twins {
    private final Check check;

    Twins(Check check) {
        this.check = check;
    }

    /** The state, as it can be asked for: all but the text, the history and the snapshot. */
    static String state(ShirtButtons machine) {
        StringBuilder all = new StringBuilder();
        for (int what = 0; what <= 21; what++) {
            all.append(machine.total(what)).append(' ');
        }
        int count = machine.total(8);
        for (int button = 0; button < count; button++) {
            all.append("| ");
            // Of many buttons less is asked, as a machine is used for 512 calls.
            for (int what = count > 10 ? 7 : 0; what <= 9; what++) {
                all.append(machine.button(button, what)).append(' ');
            }
        }
        return all.toString();
    }

    private static String all(ShirtButtons machine) {
        return state(machine) + "| " + machine.total(22) + ' ' + machine.total(23);
    }

    private static String undone(ShirtButtons machine) {
        StringBuilder all = new StringBuilder();
        int left = machine.undo();
        while (left >= 0) {
            all.append(left).append(": ").append(state(machine)).append('\n');
            left = machine.undo();
        }
        return all.append(left).toString();
    }

    private static String restored(ShirtButtons machine) {
        int kept = machine.restore();
        return kept == ShirtButtons.NONE ? "none" : kept + ": " + state(machine);
    }

    private static String readAgain(ShirtButtons machine) {
        return machine.read() + ": " + state(machine);
    }

    /** The call answers so, and leaves all as it was: the state, the history, the snapshot and the text. */
    void unchanged(String call, Supplier<ShirtButtons> make, ToIntFunction<ShirtButtons> made, int want) {
        // Each is asked of machines of their own, as it takes many calls, and changes them.
        alike(call, "the state", make, made, want, Twins::all);
        alike(call, "the history", make, made, want, Twins::undone);
        alike(call, "the snapshot", make, made, want, Twins::restored);
        alike(call, "the text", make, made, want, Twins::readAgain);
    }

    private void alike(String call, String what, Supplier<ShirtButtons> make, ToIntFunction<ShirtButtons> made,
            int want, Function<ShirtButtons, String> ask) {
        ShirtButtons machine = make.get();
        check.due(call, made.applyAsInt(machine), want);
        check.due(call + " leaves " + what, ask.apply(machine), ask.apply(make.get()));
    }

    /** The call answers so, is recorded once, and undo brings back the state before it. */
    void recorded(String call, Supplier<ShirtButtons> make, ToIntFunction<ShirtButtons> made, int want) {
        ShirtButtons machine = make.get();
        String before = state(machine);
        int states = machine.total(22);
        check.due(call, made.applyAsInt(machine), want);
        check.due("states after " + call, machine.total(22), Math.min(4, states + 1));
        check.due("undo of " + call, machine.undo(), Math.min(3, states));
        check.due("state before " + call, state(machine), before);
        sameAfter(call, make, made);
    }

    /** The text and the snapshot aren't changed by it. */
    private void sameAfter(String call, Supplier<ShirtButtons> make, ToIntFunction<ShirtButtons> made) {
        ShirtButtons machine = make.get();
        int length = machine.total(23);
        made.applyAsInt(machine);
        check.due("text after " + call, machine.total(23), length);
        check.due("snapshot after " + call, restored(machine), restored(make.get()));
    }

    static Supplier<ShirtButtons> then(Supplier<ShirtButtons> make, Consumer<ShirtButtons> more) {
        return () -> {
            ShirtButtons machine = make.get();
            more.accept(machine);
            return machine;
        };
    }
}
