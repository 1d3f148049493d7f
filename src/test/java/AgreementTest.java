/** Long runs of mixed calls: the class and the model must give the same answers all along. */
public final class AgreementTest {
    private static final int RUNS = 3000;
    private static final int CALLS = 512;
    private static final int KINDS = 22;
    private static final Check check = new Check("AgreementTest");

    private final ShirtButtons machine = new ShirtButtons();
    private final Model model = new Model();
    private final StringBuilder calls = new StringBuilder();
    private final int manner;
    private long seed;
    private int calledSoFar = 0;

    private AgreementTest(long seed) {
        this.seed = seed * 7919 + 17;
        manner = (int) (seed % 4);
    }

    public static void main(String[] args) {
        for (int run = 0; run < RUNS && !check.isWrong(); run++) {
            new AgreementTest(run).go();
        }
        check.end();
    }

    /** A plain generator, so that each run is the same each time. */
    private int any(int below) {
        seed = seed * 6364136223846793005L + 1442695040888963407L;
        return (int) ((seed >>> 33) % below);
    }

    private int wild(int low, int high) {
        switch (any(60)) {
            case 0:
                return low - 1;
            case 1:
                return high + 1;
            case 2:
                return Integer.MIN_VALUE + any(3);
            case 3:
                return Integer.MAX_VALUE - any(3);
            default:
                return low + any(high - low + 1);
        }
    }

    private void go() {
        // A text is written by two calls at least.
        while (calledSoFar < CALLS - 1 && !check.isWrong()) {
            if (any(9) == 0) {
                writeText();
            } else {
                call(any(KINDS));
            }
        }
    }

    private void due(String call, int got, int want) {
        calledSoFar++;
        calls.append(call).append(" = ").append(got).append('\n');
        check.due(call, got, want);
        if (got != want) {
            System.out.println(calls);
        }
    }

    private String someButton() {
        StringBuilder one = new StringBuilder();
        // Few kinds of buttons in some runs, so that bins get full.
        one.append(manner == 0 ? 1 : 1 + any(4)).append('h');
        one.append(manner == 1 ? 9 + any(3) : 1 + any(any(4) == 0 ? 30 : 22));
        if (any(4) == 0) {
            one.append('i').append(any(10));
        }
        if (any(3) == 0) {
            one.append('c').append(any(10));
        }
        if (any(3) > 0) {
            one.append('s').append(any(10));
        }
        return one.toString();
    }

    private void writeText() {
        due("clearText()", machine.clearText(), model.clearText());
        StringBuilder text = new StringBuilder(someButton());
        int more = any(6);
        for (int i = 0; i < more; i++) {
            text.append(',').append(someButton());
        }
        if (any(3) == 0) {
            spoil(text);
        }
        for (int i = 0; i < text.length() && calledSoFar < CALLS - 1; i++) {
            due("type(" + (int) text.charAt(i) + ")", machine.type(text.charAt(i)), model.type(text.charAt(i)));
        }
        due("read()", machine.read(), model.read());
    }

    private void spoil(StringBuilder text) {
        String signs = "0123456789hics,,  x" + (char) 0x139 + (char) 0xffff;
        int at = any(text.length());
        switch (any(3)) {
            case 0:
                text.setCharAt(at, signs.charAt(any(signs.length())));
                break;
            case 1:
                text.insert(at, signs.charAt(any(signs.length())));
                break;
            default:
                text.deleteCharAt(at);
                break;
        }
    }

    private void call(int kind) {
        int bin = manner == 0 ? wild(0, 2) * 4 : wild(0, 11);
        int many = wild(1, 9);
        switch (kind) {
            case 0:
                due("read()", machine.read(), model.read());
                break;
            case 1:
            case 2:
            case 3:
                int turns = any(5) == 0 ? wild(1, 99) : 1 + any(12);
                due("sort(" + turns + ")", machine.sort(turns), model.sort(turns));
                break;
            case 4:
                due("letGo()", machine.letGo(), model.letGo());
                break;
            case 5:
                due("pour(" + bin + ")", machine.pour(bin), model.pour(bin));
                break;
            case 6:
            case 7:
                int wanted = any(3) == 0 ? many : 1 + any(3);
                due("shirt(" + bin + ", " + wanted + ")", machine.shirt(bin, wanted), model.shirt(bin, wanted));
                break;
            case 8:
                int button = wild(0, 39);
                due("polish(" + button + ")", machine.polish(button), model.polish(button));
                break;
            case 9:
                int setting = wild(0, 7);
                int value = wild(0, any(2) == 0 ? 9 : 30);
                due("set(" + setting + ", " + value + ")", machine.set(setting, value), model.set(setting, value));
                break;
            case 10:
                due("undo()", machine.undo(), model.undo());
                break;
            case 11:
                due("keep()", machine.keep(), model.keep());
                break;
            case 12:
                if (any(4) == 0) {
                    due("restore()", machine.restore(), model.restore());
                }
                break;
            default:
                ask(kind, bin, many);
                break;
        }
    }

    private void ask(int kind, int bin, int many) {
        int button = wild(0, model.total(8));
        int what = wild(0, 9);
        int value = wild(1, 30);
        switch (kind) {
            case 13:
                due("button(" + button + ", " + what + ")", machine.button(button, what), model.button(button, what));
                break;
            case 14:
                due("inBin(" + bin + ", " + what + ")", machine.inBin(bin, what), model.inBin(bin, what));
                break;
            case 15:
                due("bin(" + bin + ", " + what / 2 + ")", machine.bin(bin, what / 2), model.bin(bin, what / 2));
                break;
            case 16:
                int which = wild(0, 23);
                due("total(" + which + ")", machine.total(which), model.total(which));
                break;
            case 17:
                due("goesTo(" + button + ")", machine.goesTo(button), model.goesTo(button));
                break;
            case 18:
                due("reason(" + bin + ", " + many + ")", machine.reason(bin, many), model.reason(bin, many));
                break;
            case 19:
                due("leastSpread(" + bin + ", " + many + ")", machine.leastSpread(bin, many), model.leastSpread(bin, many));
                break;
            case 20:
                due("shirts(" + many + ")", machine.shirts(many), model.shirts(many));
                break;
            default:
                int mesh = wild(0, 2);
                int place = wild(0, 6);
                due("ifMesh(" + mesh + ", " + value + ", " + place + ")", machine.ifMesh(mesh, value, place),
                    model.ifMesh(mesh, value, place));
                break;
        }
    }
}
