/** All promises: calls in any order with any arguments throw what the document says, there alone, and nothing else. */
public final class WildCallsTest {
    private static final int[] EDGES = {Integer.MIN_VALUE, -256, -1, 0, 1, 2, 3, 7, 15, 16, 20, 255, 256, 400, 8192,
        Integer.MAX_VALUE};

    private final Texts texts;
    private final TileChoice object = new TileChoice();
    private final int seed;
    private int calls;
    private int tape;
    private int result;
    private boolean machine;
    private boolean program;
    private boolean ran;

    private WildCallsTest(int seed) {
        this.seed = seed;
        texts = new Texts(77_000_000L + seed);
    }

    public static void main(String[] args) {
        for (int seed = 0; seed < 5000 && Check.wrongSoFar() < 20; seed++) {
            WildCallsTest wild = new WildCallsTest(seed);
            while (wild.hasCallsFor(0)) {
                wild.call();
            }
        }
        Check.finish();
    }

    /** The object, for one call: there are no more than 512 of them, as what is beyond is free. */
    private TileChoice x() {
        calls++;
        return object;
    }

    /** Whether there are calls left for what is asked before and behind each step, and for some more. */
    private boolean hasCallsFor(int more) {
        return calls + 20 + more <= Supply.CALLS;
    }

    private int number() {
        return texts.below(3) > 0 ? texts.below(30) : EDGES[texts.below(EDGES.length)];
    }

    private boolean covered() {
        return machine && program && x().count(8) == x().count(3);
    }

    private void expect(String what, Class<? extends RuntimeException> due, Check.Call call) {
        if (due != null) {
            Check.refuses("seed " + seed + " " + what, due, call);
            return;
        }
        try {
            call.answer();
        } catch (RuntimeException e) {
            Check.same("seed " + seed + " " + what + " threw " + e, 0, 1);
        }
    }

    private void call() {
        int a = number();
        int b = number();
        switch (texts.below(17)) {
            case 0:
                expect("feed", tape + 20 > 8192 ? IndexOutOfBoundsException.class : null, () -> x().feed(a, b, a, b, a));
                break;
            case 1:
                expect("end " + a, a < 0 || a > tape ? IllegalArgumentException.class : null, () -> x().end(a));
                break;
            case 2:
            case 3:
                textCall(true);
                break;
            case 4:
            case 5:
                textCall(false);
                break;
            case 6:
                boolean fits = a >= 0 && a <= 15;
                expect("begin " + a, fits ? null : IllegalArgumentException.class, () -> x().begin(a, b));
                ran &= !fits;
                break;
            case 7:
                expect("count " + a, a < 0 || a > 13 ? IllegalArgumentException.class : null, () -> x().count(a));
                break;
            case 8:
                expect("cost " + a + " " + b, nodeAndKind(a, b), () -> x().cost(a, b));
                break;
            case 9:
                expect("rule " + a + " " + b, nodeAndKind(a, b), () -> x().rule(a, b));
                break;
            case 10:
                expect("state " + a, nodeAndKind(a, 0), () -> x().state(a));
                break;
            case 11:
                expect("even", machine && program ? null : IllegalStateException.class, () -> x().even() ? 1 : 0);
                break;
            case 12:
                expect("run(false)", program ? null : IllegalStateException.class, () -> x().run(false));
                ran |= program;
                break;
            case 13:
                expect("run(true)", covered() ? null : IllegalStateException.class, () -> x().run(true));
                ran |= covered();
                break;
            case 14:
                expect("variable " + a, !ran ? IllegalStateException.class
                        : a < 0 || a > 15 ? IllegalArgumentException.class : null, () -> x().variable(a));
                expect("cell " + a, !ran ? IllegalStateException.class
                        : a < 0 || a > 255 ? IndexOutOfBoundsException.class : null, () -> x().cell(a));
                break;
            case 15:
                expect("list", covered() ? null : IllegalStateException.class, () -> x().list());
                break;
            default:
                expect("word " + a, a < 0 || a >= result ? IndexOutOfBoundsException.class : null, () -> x().word(a));
        }
        tape = x().count(7);
        result = x().count(6);
    }

    private void textCall(boolean asMachine) {
        if (texts.below(4) > 0) {
            String text = asMachine ? texts.machine() : texts.program();
            text = texts.below(4) == 0 ? texts.damaged(text) : text;
            if (text.length() > 8100 || !hasCallsFor(Supply.callsToFeed(text))) {
                return;
            }
            x().end(0);
            Check.feed(object, text);
            calls += Supply.callsToFeed(text);
        }
        int place = asMachine ? x().machine() : x().program();
        if (asMachine) {
            machine = place < 0;
        } else {
            program = place < 0;
        }
        ran = false;
        Check.same("seed " + seed + " reason", place < 0 ? 0 : 1, Math.min(x().count(5), 1));
        Check.same("seed " + seed + " tape", 0, x().count(7));
        Check.same("seed " + seed + " machine is there", machine ? 1 : 0, Math.min(x().count(0), 1));
        Check.same("seed " + seed + " program is there", program ? 1 : 0, Math.min(x().count(3), 1));
    }

    private Class<? extends RuntimeException> nodeAndKind(int n, int k) {
        if (!machine || !program) {
            return IllegalStateException.class;
        }
        boolean there = n >= 0 && n < x().count(4) && k >= 0 && k < x().count(1);
        return there ? null : IndexOutOfBoundsException.class;
    }
}
