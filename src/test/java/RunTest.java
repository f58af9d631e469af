/** Promises 12, 13 and 14: runs by trees and by instructions, and what they leave. */
public final class RunTest {
    private static final String MACHINE = "stm = set(reg) 1 stm = store(reg, reg) 1 stm = ret(reg) 1 reg = var 1 reg = # 1 "
            + "reg = add(reg, reg) 1 reg = sub(reg, reg) 1 reg = mul(reg, reg) 1 reg = and(reg, reg) 1 "
            + "reg = or(reg, reg) 1 reg = xor(reg, reg) 1 reg = shl(reg, reg) 1 reg = shr(reg, reg) 1 "
            + "reg = lt(reg, reg) 1 reg = neg(reg) 1 reg = not(reg) 1 reg = load(reg) 1";

    public static void main(String[] args) {
        ops();
        trees();
        freeRoots();
        chainsAtRoots();
        mixedTiles();
        sinceTheLatest();
        wrongInputs();
        Check.finish();
    }

    private static void both(String what, TileChoice x, int due) {
        Check.same(what + " by trees", due, x.run(false));
        Check.same(what + " by instructions", due, x.run(true));
    }

    private static void value(String expression, int due) {
        both(expression, Check.with(MACHINE, "ret(" + expression + ")"), due);
    }

    private static void ops() {
        value("add(2147483647, 1)", Integer.MIN_VALUE);
        value("sub(-2147483648, 1)", Integer.MAX_VALUE);
        value("sub(3, 5)", -2);
        value("mul(65536, 65536)", 0);
        value("mul(-3, 7)", -21);
        value("and(12, 10)", 8);
        value("or(12, 10)", 14);
        value("xor(12, 10)", 6);
        value("shl(1, 33)", 2);
        value("shl(1, 31)", Integer.MIN_VALUE);
        value("shl(3, -1)", Integer.MIN_VALUE);
        value("shr(-8, 1)", -4);
        value("shr(-8, 33)", -4);
        value("shr(5, 32)", 5);
        value("lt(-1, 0)", 1);
        value("lt(0, 0)", 0);
        value("lt(1, 0)", 0);
        value("lt(-2147483648, 2147483647)", 1);
        value("neg(5)", -5);
        value("neg(-2147483648)", Integer.MIN_VALUE);
        value("not(0)", -1);
        value("not(5)", -6);
        value("load(3)", 0);
        value("v3", 0);
    }

    private static void trees() {
        TileChoice x = Check.with(MACHINE, "store(-1, 5) store(256, 6) set v1(add(load(255), load(512)))"
                + " set v15(v1) store(v15, mul(v1, v2)) ret(neg(load(11))) set v1(99) ret(1)");
        x.begin(2, 3);
        both("run", x, -33);
        Check.same("v1: what is behind ret is not done", 11, x.variable(1));
        Check.same("v15", 11, x.variable(15));
        Check.same("v2", 3, x.variable(2));
        Check.same("cell 255", 5, x.cell(255));
        Check.same("cell 0", 6, x.cell(0));
        Check.same("cell 11", 33, x.cell(11));
        Check.same("cell 1", 0, x.cell(1));
        both("cells are 0 again at first", x, -33);
        both("without ret", Check.with(MACHINE, "set v1(7)"), 0);
        TileChoice y = Check.with(MACHINE, "set v1(add(v1, 1)) store(load(v1), v1) store(v1, load(0))");
        both("no ret", y, 0);
        Check.same("v1", 1, y.variable(1));
        Check.same("cell 0", 1, y.cell(0));
        Check.same("cell 1", 1, y.cell(1));
    }

    /** TREES whose set, store, ret are in no INSTRUCTION. */
    private static void freeRoots() {
        String machine = "stm = set(reg) 0 stm = store(reg, reg) 0 stm = ret(reg) 0 reg = var 1 reg = # 0 "
                + "reg = add(reg, reg) 0 reg = mul(reg, reg) 2 reg = load(reg) 0";
        TileChoice x = Check.with(machine, "set v1(add(v2, mul(3, v3))) store(add(v1, 1), mul(v1, v1)) "
                + "store(4, 5) set v9(load(add(4, v0))) ret(add(mul(v1, 2), load(9)))");
        x.begin(2, 2);
        x.begin(3, 2);
        both("run", x, 16 + 64);
        Check.same("v1", 8, x.variable(1));
        Check.same("v9", 5, x.variable(9));
        Check.same("cell 4", 5, x.cell(4));
        TileChoice y = Check.with(machine, "set v1(7) ret(5) ret(6)");
        Check.same("no instructions", 0, y.count(12));
        both("nothing chosen", y, 5);
        Check.same("v1", 7, y.variable(1));
    }

    /** A set is done once, however many INSTRUCTIONS its NODE has. */
    private static void chainsAtRoots() {
        TileChoice x = Check.with("stm = b 1 b = c 2 c = set(reg) 1 c = ret(reg) 1 reg = x 1 x = var 1 x = add(reg, #) 1",
                "set v1(add(v1, 1)) set v1(add(v1, 1)) ret(v1)");
        x.begin(1, 40);
        both("run", x, 42);
        Check.same("instructions", 7 + 7 + 5, x.count(12));
        TileChoice y = Check.with("stm = b 0 b = c 2 c = d 0 d = set(reg) 0 d = ret(reg) 0 reg = var 0 reg = add(reg, #) 0",
                "set v1(add(v1, 1)) set v1(add(v1, 1)) ret(v1)");
        y.begin(1, 40);
        both("run", y, 42);
        Check.same("instructions", 3, y.count(12));
    }

    private static void mixedTiles() {
        TileChoice x = Check.with("stm = store(add(reg, #), reg) 1 stm = set(load(add(reg, #))) 1 stm = ret(reg) 1 "
                + "reg = var 1 reg = # 1 reg = add(reg, mul(reg, #(0:9))) 1 reg = sub(load(reg), reg) 1",
                "store(add(v1, 3), add(v2, mul(7, 9))) set v4(load(add(3, 0))) ret(sub(load(3), add(v4, mul(v4, 1))))");
        x.begin(2, 5);
        both("run", x, 68 - 136);
        Check.same("v4", 68, x.variable(4));
        Check.same("cell 3", 68, x.cell(3));
    }

    private static void sinceTheLatest() {
        TileChoice x = Check.with(MACHINE, "set v1(add(v1, 5)) store(7, v1)");
        Check.refuses("variable before a run", IllegalStateException.class, () -> x.variable(1));
        Check.refuses("cell before a run", IllegalStateException.class, () -> x.cell(7));
        x.run(true);
        Check.same("v1", 5, x.variable(1));
        x.begin(1, 10);
        Check.refuses("variable behind begin", IllegalStateException.class, () -> x.variable(1));
        Check.refuses("cell behind begin", IllegalStateException.class, () -> x.cell(7));
        x.run(false);
        Check.same("v1", 15, x.variable(1));
        Check.same("cell 7", 15, x.cell(7));
        Check.refuses("begin(16)", IllegalArgumentException.class, () -> x.begin(16, 0));
        Check.same("what throws changes nothing", 15, x.variable(1));
        Check.feed(x, "stm = ret(var) 1");
        x.list();
        Check.same("the tape changes nothing", 15, x.variable(1));
        Check.same("a new machine", -1, x.machine());
        Check.refuses("variable behind machine", IllegalStateException.class, () -> x.variable(1));
        Check.same("run of the trees, covered or not", 0, x.run(false));
        Check.same("v1", 15, x.variable(1));
        Check.refuses("run(true)", IllegalStateException.class, () -> x.run(true));
        Check.same("what throws changes nothing", 15, x.variable(1));
        Check.same("a wrong machine", 0, x.machine());
        Check.refuses("variable behind a wrong text", IllegalStateException.class, () -> x.variable(1));
        Check.refuses("run(true) without a machine", IllegalStateException.class, () -> x.run(true));
        Check.same("run without a machine", 0, x.run(false));
        Check.same("cell 7", 15, x.cell(7));
        Check.same("a wrong program", 0, x.program());
        Check.refuses("cell behind a wrong text", IllegalStateException.class, () -> x.cell(7));
        Check.refuses("run(false) without a program", IllegalStateException.class, () -> x.run(false));
        Check.refuses("run(true) without a program", IllegalStateException.class, () -> x.run(true));
    }

    private static void wrongInputs() {
        TileChoice x = Check.with(MACHINE, "ret(1)");
        Check.refuses("variable(16) before a run", IllegalStateException.class, () -> x.variable(16));
        Check.refuses("cell(256) before a run", IllegalStateException.class, () -> x.cell(256));
        x.run(false);
        Check.refuses("variable(16)", IllegalArgumentException.class, () -> x.variable(16));
        Check.refuses("variable(-1)", IllegalArgumentException.class, () -> x.variable(-1));
        Check.refuses("cell(256)", IndexOutOfBoundsException.class, () -> x.cell(256));
        Check.refuses("cell(-1)", IndexOutOfBoundsException.class, () -> x.cell(-1));
    }
}
