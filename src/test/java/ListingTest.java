/** Promises 15 and 16, and 7 (6, 12, 13): instructions in order, their registers, and the bytes of the listing. */
public final class ListingTest {
    private static final String PLAIN = "stm = ret(reg) 1 stm = store(reg, reg) 1 reg = var 1 reg = # 1 "
            + "reg = add(reg, reg) 1 reg = neg(reg) 1";

    public static void main(String[] args) {
        orders();
        tiles();
        chains();
        freeRoots();
        manyRegisters();
        words();
        staying();
        Check.finish();
    }

    private static void listing(String machine, String program, int need, String... lines) {
        TileChoice x = Check.with(machine, program);
        String due = lines.length == 0 ? "" : String.join("\n", lines) + "\n";
        Check.same("instructions of " + program, lines.length, x.count(12));
        Check.same("need of " + program, need, x.count(13));
        Check.same("listing of " + program, due, Check.listing(x));
        Check.same("once more " + program, due.length(), x.list());
    }

    private static void orders() {
        listing(PLAIN, "ret(7)", 1, "r0 = 3", "r0 = 0 r0");
        listing(PLAIN, "ret(add(v1, add(v2, add(v3, 4))))", 2,
                "r0 = 2", "r1 = 3", "r0 = 4 r0 r1", "r1 = 2", "r0 = 4 r1 r0", "r1 = 2", "r0 = 4 r1 r0", "r0 = 0 r0");
        listing(PLAIN, "ret(add(add(v1, 2), add(3, v4)))", 3,
                "r0 = 2", "r1 = 3", "r0 = 4 r0 r1", "r1 = 3", "r2 = 2", "r1 = 4 r1 r2", "r0 = 4 r0 r1", "r0 = 0 r0");
        listing(PLAIN, "store(neg(v1), neg(add(1, 2))) ret(1)", 2,
                "r0 = 3", "r1 = 3", "r0 = 4 r0 r1", "r0 = 5 r0", "r1 = 2", "r1 = 5 r1", "r0 = 1 r1 r0",
                "r0 = 3", "r0 = 0 r0");
    }

    private static void tiles() {
        String machine = "stm = ret(reg) 1 reg = var 1 reg = add(reg, mul(reg, reg)) 2 reg = neg(#(1:9)) 3 reg = #(5) 0";
        // Three OPERANDS of NEED 1: 1, 2 and 3.
        listing(machine, "ret(add(v1, mul(v2, v3)))", 3,
                "r0 = 1", "r1 = 1", "r2 = 1", "r0 = 2 r0 r1 r2", "r0 = 0 r0");
        // The greatest NEED first, though it is the last from the left.
        listing(machine, "ret(add(v1, mul(v2, add(v3, mul(v4, v5)))))", 3,
                "r0 = 1", "r1 = 1", "r2 = 1", "r0 = 2 r0 r1 r2", "r1 = 1", "r2 = 1", "r0 = 2 r1 r2 r0", "r0 = 0 r0");
        // 5 costs nothing: it is no INSTRUCTION, and no OPERAND.
        listing(machine, "ret(add(5, mul(neg(5), v3)))", 2, "r0 = 3", "r1 = 1", "r0 = 2 r0 r1", "r0 = 0 r0");
        listing(machine, "ret(5)", 1, "r0 = 0");
    }

    private static void chains() {
        listing("stm = a 2 a = ret(reg) 1 reg = b 1 b = c 0 c = var 1 reg = add(b, reg) 1", "ret(add(v1, v2))", 2,
                "r0 = 4", "r1 = 4", "r1 = 2 r1", "r0 = 5 r0 r1", "r0 = 1 r0", "r0 = 0 r0");
        // A RULE that costs nothing hands up what is below it.
        listing("stm = ret(reg) 1 reg = add(reg, reg) 0 reg = var 1", "ret(add(add(v1, v2), add(v3, v4)))", 4,
                "r0 = 2", "r1 = 2", "r2 = 2", "r3 = 2", "r0 = 0 r0 r1 r2 r3");
    }

    /** TREES without an INSTRUCTION at the first NODE: their first INSTRUCTIONS are ordered, too, and keep registers. */
    private static void freeRoots() {
        String machine = "stm = store(reg, reg) 0 stm = ret(reg) 0 reg = var 1 reg = add(reg, reg) 1 reg = # 0";
        listing(machine, "store(v1, add(v2, v3)) ret(v4)", 2,
                "r0 = 2", "r1 = 2", "r0 = 3 r0 r1", "r1 = 2", "r0 = 2");
        listing(machine, "store(v1, v2)", 1, "r0 = 2", "r1 = 2");
        listing(machine, "store(add(v1, v2), add(v3, v4))", 2,
                "r0 = 2", "r1 = 2", "r0 = 3 r0 r1", "r1 = 2", "r2 = 2", "r1 = 3 r1 r2");
        listing(machine, "store(1, 2) ret(3)", 0);
    }

    private static void manyRegisters() {
        // 128 OPERANDS of one INSTRUCTION: registers of three digits.
        String sum = "v1";
        for (int i = 0; i < 7; i++) {
            sum = "add(" + sum + "," + sum + ")";
        }
        TileChoice x = Check.with("stm = ret(reg) 1 reg = add(reg, reg) 0 reg = var 1", "ret(" + sum + ")");
        StringBuilder due = new StringBuilder();
        StringBuilder last = new StringBuilder("r0 = 0");
        for (int r = 0; r < 128; r++) {
            due.append("r" + r + " = 2\n");
            last.append(" r" + r);
        }
        Check.same("listing", due.toString() + last + "\n", Check.listing(x));
        Check.same("need", 128, x.count(13));
        x.begin(1, 3);
        Check.same("run", 384, x.run(true));
    }

    private static void words() {
        TileChoice x = Check.with(PLAIN, "ret(7)");
        Check.refuses("word before list", IndexOutOfBoundsException.class, () -> x.word(0));
        Check.same("list", 17, x.list());
        Check.same("count(6)", 17, x.count(6));
        Check.same("word(0)", 0x7230203d20330a72L, x.word(0));
        Check.same("word(7)", 0x7230203d20302072L, x.word(7));
        Check.same("word(10)", 0x3d20302072300a00L, x.word(10));
        Check.same("word(16)", 0x0a00000000000000L, x.word(16));
        Check.refuses("word(17)", IndexOutOfBoundsException.class, () -> x.word(17));
        Check.refuses("word(-1)", IndexOutOfBoundsException.class, () -> x.word(-1));
        Check.refuses("word(greatest)", IndexOutOfBoundsException.class, () -> x.word(Integer.MAX_VALUE));
    }

    private static void staying() {
        TileChoice x = Check.with(PLAIN, "ret(7)");
        x.list();
        Check.program(x, "ret(add(1, 2)) ret(neg(3))");
        Check.same("RESULT stays with a new program", 17, x.count(6));
        Check.same("and its bytes", "r0 = 3\nr0 = 0 r0\n", Check.result(x));
        Check.program(x, "ret(");
        Check.refuses("list without a program", IllegalStateException.class, () -> x.list());
        Check.same("RESULT stays with a wrong one", 17, x.count(6));
        Check.program(x, "ret(load(3))");
        Check.refuses("list of what is not covered", IllegalStateException.class, () -> x.list());
        Check.program(x, "ret(add(1, 2))");
        Check.same("longer", 7 + 7 + 13 + 10, x.list());
        Check.program(x, "ret(1)");
        Check.same("shorter", 17, x.list());
        Check.refuses("nothing is left behind it", IndexOutOfBoundsException.class, () -> x.word(17));
        Check.same("zeros behind its end", 0x0a00000000000000L, x.word(16));
        Check.machine(x, "stm = ret(#) 0");
        Check.same("empty", 0, x.list());
        Check.same("count(6)", 0, x.count(6));
        Check.refuses("no bytes", IndexOutOfBoundsException.class, () -> x.word(0));
        Check.machine(x, "");
        Check.refuses("list without a machine", IllegalStateException.class, () -> x.list());
    }
}
