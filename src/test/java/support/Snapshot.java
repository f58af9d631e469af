/** All that an object tells, asked by calls that change nothing; some sixty calls for a small program. */
final class Snapshot {
    private static final int[] CELLS = {0, 1, 2, 127, 255};

    private Snapshot() {
    }

    static String of(TileChoice x) {
        return withoutResult(x) + " RESULT " + Check.result(x);
    }

    static String withoutResult(TileChoice x) {
        StringBuilder text = new StringBuilder();
        for (int what = 0; what <= 13; what++) {
            text.append(" count ").append(what).append(' ').append(what == 6 ? 0 : x.count(what));
        }
        tell(text, "even", () -> x.even() ? 1 : 0);
        int nodes = Math.min(x.count(4), 6);
        int kinds = Math.min(x.count(1), 3);
        for (int node = 0; node <= nodes; node++) {
            int n = node;
            tell(text, "state " + n, () -> x.state(n));
            for (int kind = 0; kind <= kinds; kind++) {
                int k = kind;
                tell(text, "cost " + n + " " + k, () -> x.cost(n, k));
                tell(text, "rule " + n + " " + k, () -> x.rule(n, k));
            }
        }
        for (int variable = 0; variable < 16; variable += 5) {
            int v = variable;
            tell(text, "variable " + v, () -> x.variable(v));
        }
        for (int j : CELLS) {
            tell(text, "cell " + j, () -> x.cell(j));
        }
        return text.toString();
    }

    private static void tell(StringBuilder text, String what, Check.Call call) {
        text.append(' ').append(what).append(' ');
        try {
            text.append(call.answer());
        } catch (IllegalStateException | IllegalArgumentException | IndexOutOfBoundsException e) {
            text.append(e.getClass().getSimpleName());
        }
    }
}
