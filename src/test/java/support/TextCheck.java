/** Texts that are due to be right, or wrong at a place: its first signs and what stands from there on. */
final class TextCheck {
    private TextCheck() {
    }

    static TileChoice rightMachine(String text) {
        TileChoice x = new TileChoice();
        Check.same("machine " + text, -1, Check.machine(x, text));
        Check.same("reason of machine " + text, 0, x.count(5));
        Check.same("there is machine " + text, 1, Math.min(x.count(0), 1));
        return x;
    }

    static TileChoice rightProgram(String text) {
        TileChoice x = new TileChoice();
        Check.same("program " + text, -1, Check.program(x, text));
        Check.same("reason of program " + text, 0, x.count(5));
        Check.same("there is program " + text, 1, Math.min(x.count(3), 1));
        return x;
    }

    static void wrongMachine(String before, String from, int reason) {
        TileChoice x = new TileChoice();
        String text = before + from;
        Check.same("machine " + text, before.length(), Check.machine(x, text));
        Check.same("reason of machine " + text, reason, x.count(5));
        for (int what = 0; what <= 2; what++) {
            Check.same("count(" + what + ") of machine " + text, 0, x.count(what));
        }
    }

    static void wrongProgram(String before, String from, int reason) {
        TileChoice x = new TileChoice();
        String text = before + from;
        Check.same("program " + text, before.length(), Check.program(x, text));
        Check.same("reason of program " + text, reason, x.count(5));
        Check.same("trees of program " + text, 0, x.count(3));
        Check.same("nodes of program " + text, 0, x.count(4));
    }

    /** The value of an expression, by a run of its tree. */
    static int valueOf(String expression) {
        return rightProgram("ret(" + expression + ")").run(false);
    }
}
