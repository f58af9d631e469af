/** Promises 1, 2, 3, 6 and 7: a new object, the tape, BEGIN, and what is counted without texts. */
public final class TapeTest {
    public static void main(String[] args) {
        newObject();
        tape();
        begin();
        Check.finish();
    }

    private static void newObject() {
        TileChoice x = new TileChoice();
        for (int what = 0; what <= 13; what++) {
            Check.same("new count(" + what + ")", 0, x.count(what));
        }
        int[] wrong = {-1, 14, 100, Integer.MIN_VALUE, Integer.MAX_VALUE};
        for (int what : wrong) {
            Check.refuses("count(" + what + ")", IllegalArgumentException.class, () -> x.count(what));
        }
        for (int v = 0; v < 16; v++) {
            Check.same("new begin(" + v + ")", 0, x.begin(v, 0));
        }
        Check.refuses("new cost", IllegalStateException.class, () -> x.cost(-1, -1));
        Check.refuses("new rule", IllegalStateException.class, () -> x.rule(-1, -1));
        Check.refuses("new state", IllegalStateException.class, () -> x.state(-1));
        Check.refuses("new even", IllegalStateException.class, () -> x.even() ? 1 : 0);
        Check.refuses("new run(false)", IllegalStateException.class, () -> x.run(false));
        Check.refuses("new run(true)", IllegalStateException.class, () -> x.run(true));
        Check.refuses("new variable", IllegalStateException.class, () -> x.variable(-1));
        Check.refuses("new cell", IllegalStateException.class, () -> x.cell(-1));
        Check.refuses("new list", IllegalStateException.class, () -> x.list());
        Check.refuses("new word", IndexOutOfBoundsException.class, () -> x.word(0));
        Check.same("new machine", 0, x.machine());
        Check.same("new program", 0, x.program());
    }

    private static void tape() {
        TileChoice x = new TileChoice();
        Check.same("first feed", 20, x.feed(0x73746d20, 0x3d207661, 0x72203120, 0x3b808182, 0xffffffff));
        Check.same("count(7)", 20, x.count(7));
        Check.refuses("end(21)", IllegalArgumentException.class, () -> x.end(21));
        Check.refuses("end(-1)", IllegalArgumentException.class, () -> x.end(-1));
        Check.refuses("end(least)", IllegalArgumentException.class, () -> x.end(Integer.MIN_VALUE));
        Check.same("end(20)", 20, x.end(20));
        Check.same("the bytes are in order, those of a remark are free", -1, x.machine());
        Check.same("a text empties the tape", 0, x.count(7));
        Check.same("and is the machine", 1, x.count(0));
        Check.same("a wrong text", 0, feedBlanks(x, 1).program());
        Check.same("a wrong text empties the tape, too", 0, x.count(7));
        for (int i = 1; i <= 409; i++) {
            Check.same("feed " + i, 20 * i, x.feed(0, 0, 0, 0, 0));
        }
        Check.refuses("feed at 8180", IndexOutOfBoundsException.class, () -> x.feed(0, 0, 0, 0, 0));
        Check.same("what throws changes nothing", 8180, x.count(7));
        Check.same("end(8173)", 8173, x.end(8173));
        Check.refuses("feed at 8173", IndexOutOfBoundsException.class, () -> x.feed(0, 0, 0, 0, 0));
        Check.same("end(8172)", 8172, x.end(8172));
        Check.same("feed at 8172", 8192, x.feed(0, 0, 0, 0, 0));
        Check.refuses("feed at 8192", IndexOutOfBoundsException.class, () -> x.feed(0, 0, 0, 0, 0));
        Check.same("end(0)", 0, x.end(0));
        Check.refuses("end(1)", IllegalArgumentException.class, () -> x.end(1));
        TileChoice y = new TileChoice();
        StringBuilder full = new StringBuilder("ret(1)");
        while (full.length() < 8192) {
            full.append(' ');
        }
        Check.feed(y, full.substring(0, 8172));
        y.feed(0x20202020, 0x20202020, 0x20202020, 0x20202020, 0x20202020);
        Check.same("a text of 8192 bytes", -1, y.program());
        TileChoice z = new TileChoice();
        Check.feed(z, full.substring(0, 8172));
        z.feed(0x20202020, 0x20202020, 0x20202020, 0x20202020, 0x20202030);
        Check.same("the last byte counts", 8191, z.program());
    }

    /** A byte 0 begins no sign. */
    private static TileChoice feedBlanks(TileChoice x, int bytes) {
        x.feed(0, 0, 0, 0, 0);
        x.end(bytes);
        return x;
    }

    private static void begin() {
        TileChoice x = new TileChoice();
        Check.same("program", -1, Check.program(x, "set v0(v15) ret(add(v0, v7))"));
        Check.same("begin(15, 5)", 0, x.begin(15, 5));
        Check.same("begin(15, -6)", 5, x.begin(15, -6));
        Check.same("begin(7, least)", 0, x.begin(7, Integer.MIN_VALUE));
        Check.same("begin(0, 9)", 0, x.begin(0, 9));
        Check.refuses("begin(16)", IllegalArgumentException.class, () -> x.begin(16, 1));
        Check.refuses("begin(-1)", IllegalArgumentException.class, () -> x.begin(-1, 1));
        Check.same("run", Integer.MIN_VALUE - 6, x.run(false));
        Check.same("v0 behind the run", -6, x.variable(0));
        Check.same("BEGIN is not changed by a run", 9, x.begin(0, 9));
        Check.same("BEGIN stays with a new program", -1, Check.program(x, "ret(v15)"));
        Check.same("run of it", -6, x.run(false));
        x.program();
        Check.same("BEGIN stays with a wrong text", -6, x.begin(15, 1));
    }
}
