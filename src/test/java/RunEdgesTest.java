/** RUN, and promises 12, 13 and 14: each edge, by TREES and by INSTRUCTIONS. */
public final class RunEdgesTest {
    private static final int LEAST = Integer.MIN_VALUE;
    private static final int GREATEST = Integer.MAX_VALUE;
    private static final int[] EDGES = {LEAST, LEAST + 1, -65536, -257, -256, -255, -33, -32, -31, -1, 0, 1, 2, 15, 16, 30,
        31, 32, 33, 63, 64, 255, 256, 257, 46340, 46341, 65536, GREATEST - 1, GREATEST};
    private static final String MACHINE = machine(1);
    /** Nothing costs anything: there are no INSTRUCTIONS, and all is done at the end of its TREE. */
    private static final String FREE = machine(0);

    public static void main(String[] args) {
        beginning();
        cellsAtFirst();
        inOrder();
        storing();
        loading();
        returning();
        wrapping();
        shifting();
        less();
        allBits();
        endWithoutRet();
        instructionsDone();
        valueOfAnInstruction();
        inNoInstruction();
        runRefused();
        variableRefused();
        cellRefused();
        Check.finish();
    }

    private static String machine(int price) {
        StringBuilder text = new StringBuilder("stm = set(reg) P stm = store(reg, reg) P stm = ret(reg) P reg = var P reg = # P");
        for (String op : Model.TWO) {
            text.append(" reg = " + op + "(reg, reg) P");
        }
        for (String op : Model.ONE) {
            text.append(" reg = " + op + "(reg) P");
        }
        return text.toString().replace("P", String.valueOf(price));
    }

    private static void both(String what, TileChoice x, int due) {
        Check.same(what + " by trees", due, x.run(false));
        Check.same(what + " by instructions", due, x.run(true));
    }

    private interface Operation {
        int of(int a, int b);
    }

    /** The OP on all pairs of edges, its parts once from BEGIN, once as numbers, once out of CELLS. */
    private static void operation(String op, boolean two, Operation due) {
        String parts = two ? "(v1, v2)" : "(v1)";
        TileChoice x = null;
        int calls = 512;
        for (int a : EDGES) {
            for (int b : two ? EDGES : new int[] {0}) {
                if (calls + 4 > 512) {
                    x = Check.with(MACHINE, "ret(" + op + parts + ")");
                    calls = 60;
                }
                x.begin(1, a);
                x.begin(2, b);
                both(op + " of " + a + " and " + b, x, due.of(a, b));
                calls += 4;
            }
        }
        String given = two ? "(-2147483648, load(3))" : "(load(3))";
        TileChoice y = Check.with(FREE, "store(3, 2147483647) ret(" + op + given + ")");
        both(op + " of a number and a cell", y, two ? due.of(LEAST, GREATEST) : due.of(GREATEST, 0));
    }

    private static void beginning() {
        Check.sentence("Variables have what BEGIN gives");
        for (String machine : new String[] {MACHINE, FREE}) {
            TileChoice x = Check.with(machine, "set v0(add(v0, 1)) set v15(sub(v15, 1)) ret(v7)");
            both("new", x, 0);
            Check.same("v0", 1, x.variable(0));
            Check.same("v15", -1, x.variable(15));
            x.begin(0, GREATEST);
            x.begin(15, LEAST);
            x.begin(7, -9);
            for (int i = 0; i < 2; i++) {
                // Each RUN begins with what BEGIN gives, not with what the one before has left.
                both("run", x, -9);
                Check.same("v0", LEAST, x.variable(0));
                Check.same("v15", GREATEST, x.variable(15));
                Check.same("v8 stays", 0, x.variable(8));
            }
            Check.same("BEGIN is as it was", LEAST, x.begin(15, 0));
        }
    }

    private static void cellsAtFirst() {
        Check.sentence("256 CELLS are 0 at first");
        TileChoice x = Check.with(MACHINE, "ret(or(or(load(0), load(255)), load(v1))) store(0, 1)");
        both("nothing is in them", x, 0);
        for (int j = 0; j < 256; j++) {
            Check.same("cell " + j, 0, x.cell(j));
        }
        TileChoice y = Check.with(MACHINE, "store(0, add(load(0), 1)) store(255, add(load(255), 2)) ret(add(load(0), load(255)))");
        for (int i = 0; i < 3; i++) {
            both("each run begins with zeros", y, 3);
        }
        Check.same("cell 0", 1, y.cell(0));
        Check.same("cell 255", 2, y.cell(255));
        Check.program(y, "ret(load(255))");
        both("nothing is left for another program", y, 0);
    }

    private static void inOrder() {
        Check.sentence("TREES are done in order: set v: v is E's value");
        for (String machine : new String[] {MACHINE, FREE}) {
            TileChoice x = Check.with(machine, "set v1(3) set v2(v1) set v1(4) set v1(add(v1, v1)) set v3(v2) ret(v1)");
            both("run", x, 8);
            Check.same("v2", 3, x.variable(2));
            Check.same("v3", 3, x.variable(3));
            StringBuilder sixty = new StringBuilder();
            for (int t = 0; t < 59; t++) {
                sixty.append("set v1(add(mul(v1, 3), " + t + "))");
            }
            int due = 0;
            for (int t = 0; t < 59; t++) {
                due = 3 * due + t;
            }
            both("sixty trees", Check.with(machine, sixty + "ret(v1)"), due);
        }
    }

    private static void storing() {
        Check.sentence("store: the CELL of the first E's lowest 8 bits is the second's");
        TileChoice x = Check.with(MACHINE, "store(v1, v2) store(xor(v1, 1), 7)");
        for (int where : EDGES) {
            x.begin(1, where);
            x.begin(2, where + 3);
            x.run(false);
            Check.same("cell of " + where, where + 3, x.cell(where & 255));
            Check.same("the other", 7, x.cell((where & 255) ^ 1));
            Check.same("a third is 0", 0, x.cell((where & 255) ^ 2));
            x.run(true);
            Check.same("chosen: cell of " + where, where + 3, x.cell(where & 255));
            Check.same("chosen: the other", 7, x.cell((where & 255) ^ 1));
        }
        TileChoice y = Check.with(MACHINE, "store(255, 1) store(256, 2) store(-1, 3) store(-256, 4)");
        both("no ret", y, 0);
        Check.same("cell 255 is that of -1", 3, y.cell(255));
        Check.same("cell 0 is that of 256 and -256", 4, y.cell(0));
    }

    private static void loading() {
        Check.sentence("load: that CELL");
        StringBuilder fill = new StringBuilder();
        int[] cells = {0, 1, 2, 15, 16, 31, 32, 63, 64, 127, 128, 254, 255};
        for (int j : cells) {
            fill.append("store(" + j + ", " + (1000 + j) + ")");
        }
        TileChoice x = Check.with(MACHINE, fill + "ret(load(v1))");
        for (int where : EDGES) {
            int cell = where & 255;
            boolean filled = false;
            for (int j : cells) {
                filled |= j == cell;
            }
            x.begin(1, where);
            both("load of " + where, x, filled ? 1000 + cell : 0);
        }
    }

    private static void returning() {
        Check.sentence("ret: the answer, the RUN ends");
        for (String machine : new String[] {MACHINE, FREE}) {
            TileChoice x = Check.with(machine, "set v1(1) ret(5) set v1(2) store(1, 2) ret(6)");
            both("the first ret", x, 5);
            Check.same("v1", 1, x.variable(1));
            Check.same("cell 1", 0, x.cell(1));
            both("0 is an answer, too", Check.with(machine, "ret(0) ret(1)"), 0);
            both("the last TREE", Check.with(machine, "set v1(7)".repeat(59) + "ret(v1)"), 7);
            TileChoice y = Check.with(machine, "ret(v1) set v1(2)");
            both("the first TREE", y, 0);
            Check.same("v1", 0, y.variable(1));
        }
    }

    private static void wrapping() {
        Check.sentence("ints wrap");
        operation("add", true, (a, b) -> (int) ((long) a + b));
        operation("sub", true, (a, b) -> (int) ((long) a - b));
        operation("mul", true, (a, b) -> (int) ((long) a * b));
        operation("neg", false, (a, b) -> (int) -(long) a);
        both("one beyond", Check.with(MACHINE, "ret(add(2147483647, 1))"), LEAST);
        both("one below", Check.with(MACHINE, "ret(sub(-2147483648, 1))"), GREATEST);
        both("neg of the least", Check.with(MACHINE, "ret(neg(-2147483648))"), LEAST);
    }

    private static void shifting() {
        Check.sentence("shl, shr by the lowest 5 bits (shr with the sign)");
        operation("shl", true, (a, b) -> (int) ((long) a << (b & 31)));
        operation("shr", true, (a, b) -> (int) Math.floorDiv((long) a, 1L << (b & 31)));
        both("by 31", Check.with(MACHINE, "ret(shl(1, 31))"), LEAST);
        both("by 32", Check.with(MACHINE, "ret(shl(1, 32))"), 1);
        both("by -1", Check.with(MACHINE, "ret(shr(-2147483648, -1))"), -1);
        both("shr by 31 of what is not below 0", Check.with(MACHINE, "ret(shr(2147483647, 31))"), 0);
        both("shr by 32", Check.with(MACHINE, "ret(shr(-5, 32))"), -5);
    }

    private static void less() {
        Check.sentence("lt 1 or 0");
        operation("lt", true, (a, b) -> Long.compare(a, b) < 0 ? 1 : 0);
    }

    private static void allBits() {
        Check.sentence("not: all bits");
        operation("not", false, (a, b) -> (int) (-1L - a));
        operation("and", true, (a, b) -> bits(a, b, 0b1000));
        operation("or", true, (a, b) -> bits(a, b, 0b1110));
        operation("xor", true, (a, b) -> bits(a, b, 0b0110));
    }

    /** Bit by bit; the table's bit 2a + b is what comes of the bits a and b. */
    private static int bits(int a, int b, int table) {
        int all = 0;
        for (int i = 0; i < 32; i++) {
            all |= (table >> 2 * (a >>> i & 1) + (b >>> i & 1) & 1) << i;
        }
        return all;
    }

    private static void endWithoutRet() {
        Check.sentence("The end without ret: 0.");
        for (String machine : new String[] {MACHINE, FREE}) {
            both("set", Check.with(machine, "set v1(7)"), 0);
            both("store", Check.with(machine, "store(1, 7)"), 0);
            TileChoice x = Check.with(machine, "ret(9)");
            both("ret", x, 9);
            Check.program(x, "set v1(7) set v2(8)");
            both("no answer is left from before", x, 0);
        }
    }

    private static void instructionsDone() {
        Check.sentence("with set, store, ret it does that, and gives 0");
        // Two CHAINS above the set: it is done once, by the lowest of its three INSTRUCTIONS.
        TileChoice x = Check.with("a = b 1 b = c 1 c = set(r) 1 c = store(r, r) 1 c = ret(r) 1 r = var 1 r = add(r, #) 1",
                "set v1(add(v1, 1)) store(v1, add(v1, 2)) set v1(add(v1, 4)) ret(v1)");
        x.begin(1, 10);
        both("run", x, 15);
        Check.same("instructions", 5 + 6 + 5 + 4, x.count(12));
        Check.same("v1", 15, x.variable(1));
        Check.same("cell 11", 13, x.cell(11));
        Check.same("cell 15", 0, x.cell(15));
    }

    private static void valueOfAnInstruction() {
        Check.sentence("gives its NODE's value by those of its OPERANDS (of what is below the OPERANDS nothing is looked "
                + "at again), variables and CELLS as they are then");
        // Tiles over several NODES, with variables, numbers and CELLS inside them.
        TileChoice x = Check.with("s = store(add(r, #), mul(var, r)) 1 s = set(sub(load(#), r)) 2 s = ret(r) 3 r = neg(r) 1 "
                + "r = add(var, load(#)) 4 r = r 1 r = # 5",
                "store(add(neg(3), 7), mul(v1, neg(6))) set v1(sub(load(4), neg(add(v1, load(4))))) ret(add(v1, load(4)))");
        x.begin(1, 5);
        // CELL 4 is -30; v1 is -30 + (5 - 30) = -55.
        both("run", x, -85);
        Check.same("v1", -55, x.variable(1));
        Check.same("cell 4", -30, x.cell(4));
    }

    private static void inNoInstruction() {
        Check.sentence("What of a TREE is in no INSTRUCTION is done when the others are done.");
        TileChoice x = Check.with("s = set(r) 0 s = store(r, r) 0 s = ret(r) 0 r = var 1 r = # 0 r = add(r, r) 0 r = mul(r, r) 1 "
                + "r = load(r) 0", "set v1(add(v1, mul(v1, 2))) store(v1, add(v1, 1)) ret(add(load(v1), mul(v1, v1)))");
        x.begin(1, 3);
        both("run", x, 10 + 81);
        Check.same("instructions", 3 + 2 + 4, x.count(12));
        Check.same("v1", 9, x.variable(1));
        Check.same("cell 9", 10, x.cell(9));
        TileChoice y = Check.with(FREE, "set v1(4) store(v1, 6) ret(load(4))");
        Check.same("no instructions", 0, y.count(12));
        both("all of it", y, 6);
    }

    private static void runRefused() {
        Check.sentence("IllegalStateException: there is no PROGRAM; for INSTRUCTIONS also: there is no MACHINE, or a TREE that "
                + "is not COVERED.");
        TileChoice x = new TileChoice();
        Check.refuses("new run(false)", IllegalStateException.class, () -> x.run(false));
        Check.refuses("new run(true)", IllegalStateException.class, () -> x.run(true));
        Check.machine(x, "s = ret(#) 1");
        Check.refuses("machine alone, run(false)", IllegalStateException.class, () -> x.run(false));
        Check.refuses("machine alone, run(true)", IllegalStateException.class, () -> x.run(true));
        Check.program(x, "ret(3)");
        both("both", x, 3);
        Check.program(x, "ret(3) ret(v1)");
        Check.same("not all covered, by trees", 3, x.run(false));
        Check.refuses("the last not covered", IllegalStateException.class, () -> x.run(true));
        Check.program(x, "set v1(2) ret(4)");
        Check.same("not all covered, by trees", 4, x.run(false));
        Check.refuses("the first not covered", IllegalStateException.class, () -> x.run(true));
        Check.machine(x, "?");
        Check.same("program alone, run(false)", 4, x.run(false));
        Check.refuses("program alone, run(true)", IllegalStateException.class, () -> x.run(true));
        Check.program(x, "?");
        Check.refuses("none, run(false)", IllegalStateException.class, () -> x.run(false));
    }

    private static void variableRefused() {
        Check.sentence("What variable v is behind the latest RUN. IllegalStateException: there was none since the latest text "
                + "and begin(). IllegalArgumentException: v is not 0 to 15.");
        TileChoice x = Check.with(MACHINE, "set v0(11) set v15(12)");
        for (int v : new int[] {-1, 0, 15, 16}) {
            Check.refuses("before a run " + v, IllegalStateException.class, () -> x.variable(v));
        }
        x.run(false);
        Check.same("v0", 11, x.variable(0));
        Check.same("v1", 0, x.variable(1));
        Check.same("v15", 12, x.variable(15));
        for (int v : new int[] {-1, 16, LEAST, GREATEST}) {
            Check.refuses("variable " + v, IllegalArgumentException.class, () -> x.variable(v));
        }
        x.begin(15, 0);
        Check.refuses("behind begin", IllegalStateException.class, () -> x.variable(0));
        x.run(true);
        Check.same("behind another run", 12, x.variable(15));
        Check.machine(x, MACHINE);
        Check.refuses("behind a machine", IllegalStateException.class, () -> x.variable(0));
        x.run(true);
        x.machine();
        Check.refuses("behind a wrong machine", IllegalStateException.class, () -> x.variable(0));
        x.run(false);
        Check.same("behind a run without a machine", 11, x.variable(0));
        Check.program(x, "set v0(13)");
        Check.refuses("behind a program", IllegalStateException.class, () -> x.variable(0));
        x.run(false);
        Check.same("of the new program", 13, x.variable(0));
        Check.same("of the new program", 0, x.variable(15));
        x.program();
        Check.refuses("behind a wrong program", IllegalStateException.class, () -> x.variable(0));
    }

    private static void cellRefused() {
        Check.sentence("CELL j behind the latest RUN. IllegalStateException likewise. IndexOutOfBoundsException: j is not 0 to "
                + "255.");
        TileChoice x = Check.with(MACHINE, "store(0, 11) store(255, 12)");
        for (int j : new int[] {-1, 0, 255, 256}) {
            Check.refuses("before a run " + j, IllegalStateException.class, () -> x.cell(j));
        }
        x.run(true);
        Check.same("cell 0", 11, x.cell(0));
        Check.same("cell 1", 0, x.cell(1));
        Check.same("cell 254", 0, x.cell(254));
        Check.same("cell 255", 12, x.cell(255));
        for (int j : new int[] {-1, 256, 257, 511, LEAST, GREATEST}) {
            Check.refuses("cell " + j, IndexOutOfBoundsException.class, () -> x.cell(j));
        }
        x.begin(0, 0);
        Check.refuses("behind begin", IllegalStateException.class, () -> x.cell(0));
        x.run(false);
        Check.same("behind another run", 12, x.cell(255));
        Check.machine(x, MACHINE);
        Check.refuses("behind a machine", IllegalStateException.class, () -> x.cell(0));
        x.run(true);
        x.machine();
        Check.refuses("behind a wrong machine", IllegalStateException.class, () -> x.cell(0));
        x.run(false);
        Check.program(x, "store(0, 13)");
        Check.refuses("behind a program", IllegalStateException.class, () -> x.cell(0));
        x.run(false);
        Check.same("of the new program", 13, x.cell(0));
        Check.same("of the new program", 0, x.cell(255));
        x.program();
        Check.refuses("behind a wrong program", IllegalStateException.class, () -> x.cell(0));
    }
}
