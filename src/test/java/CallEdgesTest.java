/** The last paragraph of the Terms, and promises 1 to 7: the tape, begin, count, and what calls leave as it was. */
public final class CallEdgesTest {
    private static final String MACHINE = "s = ret(r) 1 s = set(r) 2 r = # 3 r = var 4";
    private static final String PROGRAM = "set v5(7) set v0(v1) ret(v5)";
    private static final int LEAST = Integer.MIN_VALUE;
    private static final int GREATEST = Integer.MAX_VALUE;

    public static void main(String[] args) {
        newObject();
        fullTape();
        feedInOrder();
        feedRefused();
        end();
        nothingBehindTheEnd();
        machineEmptiesTheTape();
        programEmptiesTheTape();
        begin();
        countWithoutMachine();
        countWithoutProgram();
        countReason();
        countWithBoth();
        countRefused();
        takesThePlace();
        orderOfExceptions();
        whatThrowsChangesNothing();
        Check.finish();
    }

    private static void newObject() {
        Check.sentence("No MACHINE, no PROGRAM; BEGIN gives 0.");
        TileChoice x = new TileChoice();
        for (int what = 0; what <= 13; what++) {
            Check.same("count(" + what + ")", 0, x.count(what));
        }
        for (int v = 0; v < 16; v++) {
            Check.same("begin(" + v + ")", 0, x.begin(v, v + 1));
        }
        // One object's BEGIN is not another's.
        Check.same("another's begin", 0, new TileChoice().begin(3, 1));
        Check.same("another's count", 0, new TileChoice().count(0));
        Check.refuses("cost", IllegalStateException.class, () -> x.cost(0, 0));
        Check.refuses("rule", IllegalStateException.class, () -> x.rule(0, 0));
        Check.refuses("state", IllegalStateException.class, () -> x.state(0));
        Check.refuses("even", IllegalStateException.class, () -> x.even() ? 1 : 0);
        Check.refuses("run(false)", IllegalStateException.class, () -> x.run(false));
        Check.refuses("run(true)", IllegalStateException.class, () -> x.run(true));
        Check.refuses("variable", IllegalStateException.class, () -> x.variable(0));
        Check.refuses("cell", IllegalStateException.class, () -> x.cell(0));
        Check.refuses("list", IllegalStateException.class, () -> x.list());
        Check.refuses("word", IndexOutOfBoundsException.class, () -> x.word(0));
        Check.refuses("end(1)", IllegalArgumentException.class, () -> x.end(1));
        Check.same("end(0)", 0, x.end(0));
    }

    private static int feedZeros(TileChoice x) {
        return x.feed(0, 0, 0, 0, 0);
    }

    private static void fullTape() {
        Check.sentence("THE TAPE has at most 8192 bytes.");
        TileChoice x = new TileChoice();
        Check.feed(x, ";".repeat(8172));
        Check.same("8192", 8192, x.feed(0x3b3b3b3b, 0x3b3b3b3b, 0x3b3b3b3b, 0x3b3b3b3b, 0x3b3b3b3b));
        Check.same("count(7)", 8192, x.count(7));
        Check.refuses("more", IndexOutOfBoundsException.class, () -> feedZeros(x));
        Check.same("a remark up to the end", 8192, x.machine());
        TileChoice y = new TileChoice();
        String full = " ".repeat(8182) + "ret(12345)";
        Check.feed(y, full.substring(0, 8172));
        y.feed(0x20202020, 0x20202020, 0x20207265, 0x74283132, 0x33343529);
        Check.same("8192 bytes, all read", -1, y.program());
        Check.same("its value", 12345, y.run(false));
        TileChoice z = new TileChoice();
        Check.feed(z, full.substring(0, 8172));
        z.feed(0x20202020, 0x20202020, 0x20207265, 0x74283132, 0x33343520);
        Check.same("too early by its last byte", 8192, z.program());
    }

    private static void feedInOrder() {
        Check.sentence("20 bytes, five times four, the highest of each first, come to the TAPE: how many it has.");
        TileChoice x = new TileChoice();
        // "set v1(12345)ret(v1)", byte by byte.
        Check.same("20", 20, x.feed(0x73657420, 0x76312831, 0x32333435, 0x29726574, 0x28763129));
        Check.same("program", -1, x.program());
        Check.same("run", 12345, x.run(false));
        Check.same("20", 20, x.feed(0x73657420, 0x76312831, 0x32333435, 0x29726574, 0x28763129));
        Check.same("40, behind what is there", 40, x.feed(0x73657420, 0x76322836, 0x37383930, 0x29726574, 0x28763229));
        Check.same("60", 60, x.feed(0x20202020, 0x20202020, 0x20202020, 0x20202020, 0x20202020));
        Check.same("program", -1, x.program());
        Check.same("trees", 4, x.count(3));
        // Bytes above 127 are bytes like others: no letters, no blanks.
        x.feed(0xf3e5f4a0, 0, 0, 0, 0);
        Check.same("the first byte", 0, x.program());
        x.feed(0x3bf3e5f4, 0x0affffff, 0, 0, 0);
        Check.same("in a remark, then not", 5, x.program());
        x.feed(LEAST, GREATEST, -1, 0, 1);
        Check.same("0x80 begins no sign", 0, x.machine());
    }

    private static void feedRefused() {
        Check.sentence("IndexOutOfBoundsException: it would have more than 8192.");
        TileChoice x = new TileChoice();
        for (int i = 1; i <= 409; i++) {
            Check.same("feed", 20 * i, feedZeros(x));
        }
        Check.refuses("8180 and 20", IndexOutOfBoundsException.class, () -> feedZeros(x));
        Check.same("nothing came", 8180, x.count(7));
        Check.same("end", 8173, x.end(8173));
        Check.refuses("8173 and 20", IndexOutOfBoundsException.class, () -> feedZeros(x));
        Check.same("nothing came", 8173, x.count(7));
        Check.same("end", 8172, x.end(8172));
        Check.same("8172 and 20", 8192, feedZeros(x));
        Check.refuses("8192 and 20", IndexOutOfBoundsException.class, () -> feedZeros(x));
        Check.same("nothing came", 8192, x.count(7));
        Check.same("end", 8171, x.end(8171));
        Check.same("8171 and 20", 8191, feedZeros(x));
        Check.same("emptied", 0, x.machine());
        Check.same("20 again", 20, feedZeros(x));
    }

    private static void end() {
        Check.sentence("The TAPE keeps its first n bytes: n. IllegalArgumentException: n is not 0 to its length.");
        TileChoice x = new TileChoice();
        Check.same("empty: 0", 0, x.end(0));
        for (int n : new int[] {-1, 1, 20, LEAST, GREATEST}) {
            Check.refuses("empty: " + n, IllegalArgumentException.class, () -> x.end(n));
        }
        Check.feed(x, "ret(1)ret(2)ret(3)xy");
        Check.same("its length", 20, x.end(20));
        for (int n : new int[] {-1, 21, 8192, LEAST, GREATEST}) {
            Check.refuses("20: " + n, IllegalArgumentException.class, () -> x.end(n));
            Check.same("20: is as it was", 20, x.count(7));
        }
        Check.same("18", 18, x.end(18));
        Check.refuses("19 is more than is left", IllegalArgumentException.class, () -> x.end(19));
        Check.same("18 bytes", -1, x.program());
        Check.same("trees", 3, x.count(3));
        Check.feed(x, "ret(1)ret(2)ret(3)xy");
        Check.same("12", 12, x.end(12));
        // What comes next stands right behind the first twelve.
        Check.feed(x, "ret(5)");
        Check.same("18 bytes", 18, x.count(7));
        Check.same("the first ones", -1, x.program());
        Check.same("trees", 3, x.count(3));
        Check.feed(x, "ret(1)");
        Check.same("5 of 6", 5, x.end(5));
        Check.same("one byte less", 5, x.program());
        Check.feed(x, "ret(1)");
        Check.same("none", 0, x.end(0));
        Check.same("nothing", 0, x.program());
    }

    /** What was cut off, or stood there in an earlier text, is behind the end: no sign goes on into it. */
    private static void nothingBehindTheEnd() {
        Check.sentence("The TAPE keeps its first n bytes: n.");
        for (String more : new String[] {"0", "9", ")", "k", ";\n)", "\u00ff"}) {
            TileChoice x = new TileChoice();
            Check.feed(x, "k = var 1000" + more);
            x.end(12);
            Check.same("a number ends there, then " + more, -1, x.machine());
        }
        TileChoice x = new TileChoice();
        Check.feed(x, "k = abcdefghi 1");
        x.end(12);
        Check.same("a word of eight ends there", 12, x.machine());
        TileChoice y = new TileChoice();
        Check.feed(y, "set v1(1) set v16(3)");
        y.end(16);
        Check.same("a variable ends there", 16, y.program());
        Check.feed(y, "set v12(3) set v12(3)");
        y.end(16);
        Check.same("its v is a word there", 15, y.program());
        Check.feed(y, "ret(-2147483648)");
        y.end(5);
        Check.same("a - has no digit there", 4, y.program());
        Check.feed(y, "ret(1) ret(2)");
        y.end(7);
        Check.same("one tree", -1, y.program());
        Check.same("one tree", 1, y.count(3));
        // At the very end of a full tape, each kind of sign: nothing at all is behind it.
        String[] last = {"k = var 12", "k = var 12;", "k = var 1 kind", "k = #(1:v", "k = var -", "k = var 1 v1"};
        int[] place = {-1, -1, 8192, 8191, 8191, 8190};
        for (int i = 0; i < last.length; i++) {
            Check.same("full: " + last[i], place[i], full(last[i]).machine());
        }
    }

    private static TileChoice full(String atItsEnd) {
        TileChoice x = new TileChoice();
        String text = " ".repeat(8192 - atItsEnd.length()) + atItsEnd;
        Check.feed(x, text.substring(0, 8180));
        x.end(8172);
        int[] four = new int[5];
        for (int i = 0; i < 20; i++) {
            four[i / 4] = four[i / 4] << 8 | text.charAt(8172 + i);
        }
        Check.same("full", 8192, x.feed(four[0], four[1], four[2], four[3], four[4]));
        return x;
    }

    private static void machineEmptiesTheTape() {
        Check.sentence("The TAPE, empty then, is the MACHINE: -1, or the PLACE where it is WRONG.");
        TileChoice x = new TileChoice();
        Check.same("empty", 0, x.machine());
        Check.same("reason", 1, x.count(5));
        Check.same("right", -1, Check.machine(x, MACHINE));
        Check.same("tape", 0, x.count(7));
        Check.same("rules", 4, x.count(0));
        Check.same("wrong", MACHINE.length(), Check.machine(x, MACHINE + "!"));
        Check.same("tape", 0, x.count(7));
        Check.same("rules", 0, x.count(0));
        Check.same("wrong by its rule", 4, Check.machine(x, "s = r 1"));
        Check.same("tape", 0, x.count(7));
        Check.same("empty again", 0, x.machine());
        Check.same("a program is none", 0, Check.machine(x, PROGRAM));
    }

    private static void programEmptiesTheTape() {
        Check.sentence("The TAPE, empty then, is the PROGRAM: -1, or the PLACE where it is WRONG.");
        TileChoice x = new TileChoice();
        Check.same("empty", 0, x.program());
        Check.same("reason", 1, x.count(5));
        Check.same("right", -1, Check.program(x, PROGRAM));
        Check.same("tape", 0, x.count(7));
        Check.same("trees", 3, x.count(3));
        Check.same("wrong", PROGRAM.length(), Check.program(x, PROGRAM + "!"));
        Check.same("tape", 0, x.count(7));
        Check.same("trees", 0, x.count(3));
        Check.same("empty again", 0, x.program());
        Check.same("a machine is none", 0, Check.program(x, MACHINE));
    }

    private static void begin() {
        Check.sentence("BEGIN gives x for variable v: what it gave. IllegalArgumentException: v is not 0 to 15.");
        TileChoice x = new TileChoice();
        Check.program(x, "store(0, v0) store(1, v15) ret(v8)");
        for (int v : new int[] {0, 8, 15}) {
            Check.same("0 at first", 0, x.begin(v, LEAST + v));
            Check.same("the least", LEAST + v, x.begin(v, GREATEST - v));
            Check.same("the greatest", GREATEST - v, x.begin(v, 100 + v));
        }
        for (int v : new int[] {-1, 16, LEAST, GREATEST}) {
            Check.refuses("begin(" + v + ")", IllegalArgumentException.class, () -> x.begin(v, 7));
        }
        Check.same("run", 108, x.run(false));
        Check.same("v0", 100, x.cell(0));
        Check.same("v15", 115, x.cell(1));
        Check.same("v1", 0, x.variable(1));
        Check.same("texts change nothing", 0, Check.machine(x, "!"));
        Check.same("what it gave", 108, x.begin(8, 108));
        Check.same("run", 108, x.run(false));
    }

    private static void counts(String what, TileChoice x, int... due) {
        for (int i = 0; i < due.length; i++) {
            Check.same(what + ": count(" + i + ")", due[i], x.count(i));
        }
    }

    private static void countWithoutMachine() {
        Check.sentence("What 0: RULES, 1: KINDS without PARTS, 2: FLAT RULES (0 to 2: 0 without a MACHINE)");
        TileChoice x = new TileChoice();
        counts("new", x, 0, 0, 0);
        Check.program(x, PROGRAM);
        counts("a program alone", x, 0, 0, 0);
        Check.machine(x, "s = ret(neg(r)) 1 r = add(var, #(1:2)) 1 r = r 0");
        counts("machine", x, 3, 2, 6);
        Check.machine(x, "s = var 1");
        counts("another", x, 1, 1, 1);
        Check.machine(x, "s = var 1001");
        counts("a wrong one", x, 0, 0, 0);
    }

    private static void countWithoutProgram() {
        Check.sentence("3: TREES, 4: NODES (0 without a PROGRAM)");
        TileChoice x = new TileChoice();
        counts("new", x, 0, 0, 0, 0, 0);
        Check.machine(x, MACHINE);
        counts("a machine alone", x, 4, 2, 4, 0, 0);
        Check.program(x, PROGRAM);
        counts("both", x, 4, 2, 4, 3, 6);
        Check.program(x, "ret(add(1, neg(v2)))");
        counts("another", x, 4, 2, 4, 1, 5);
        Check.program(x, "ret(add(1, neg(v2))");
        counts("a wrong one", x, 4, 2, 4, 0, 0);
        Check.program(x, "store(add(1,2), mul(neg(3), 4))".repeat(51));
        counts("a wrong one by its NODES", x, 4, 2, 4, 0, 0, 4);
    }

    private static void countReason() {
        Check.sentence("5: REASON of the latest text, 6: bytes of RESULT, 7: of the TAPE");
        TileChoice x = new TileChoice();
        Check.same("no text", 0, x.count(5));
        String[] machines = {"s = var 1", "s =", "s = r 1", "s = var 1001", "s = neg(var) 1 ".repeat(60)};
        int[] reasons = {0, 1, 2, 3, 0};
        for (int i = 0; i < machines.length; i++) {
            Check.machine(x, machines[i]);
            Check.same("reason of " + machines[i], reasons[i], x.count(5));
        }
        Check.machine(x, "s = add(var, var) 1 ".repeat(31));
        Check.same("4", 4, x.count(5));
        Check.feed(x, "ret(1)");
        Check.same("the tape is no text yet", 4, x.count(5));
        Check.same("of the tape", 6, x.count(7));
        x.program();
        Check.same("the latest one is right", 0, x.count(5));
        Check.same("of the tape", 0, x.count(7));
        x.program();
        Check.same("the latest one is wrong", 1, x.count(5));
        Check.machine(x, MACHINE);
        Check.same("the latest one, be it a machine", 0, x.count(5));
        Check.program(x, "ret(1)");
        Check.same("no result", 0, x.count(6));
        Check.same("list", 17, x.list());
        Check.same("of the result", 17, x.count(6));
    }

    private static void countWithBoth() {
        Check.sentence("with both (else 0) 8: TREES that are COVERED, 9: the sum of their costs (of their first NODES as the GOAL), "
                + "10: STATES, 11: how often a STATE was looked up and there (both 0, if none are told); if all TREES are COVERED "
                + "(else 0) 12: INSTRUCTIONS, 13: the greatest NEED (0 without any).");
        TileChoice x = new TileChoice();
        Check.machine(x, MACHINE);
        counts("a machine alone", x, 4, 2, 4, 0, 0, 0, 0, 0, 0, 0, 0, 0, 0, 0);
        Check.program(x, PROGRAM);
        // set(7): 5, set(v1): 6, ret(v5): 5. STATES: 7, set, v1, ret; set of v1 is not there, v5 is, ret of it is not.
        counts("both", x, 4, 2, 4, 3, 6, 0, 0, 0, 3, 16, 4, 1, 6, 1);
        Check.program(x, PROGRAM + "store(1, 2)");
        counts("one not covered", x, 4, 2, 4, 4, 9, 0, 0, 0, 3, 16, 5, 1, 0, 0);
        Check.machine(x, "?");
        counts("a program alone", x, 0, 0, 0, 4, 9, 1, 0, 0, 0, 0, 0, 0, 0, 0);
        Check.machine(x, MACHINE);
        counts("both again", x, 4, 2, 4, 4, 9, 0, 0, 0, 3, 16, 5, 1, 0, 0);
        Check.program(x, "?");
        counts("a machine alone", x, 4, 2, 4, 0, 0, 1, 0, 0, 0, 0, 0, 0, 0, 0);
    }

    private static void countRefused() {
        Check.sentence("IllegalArgumentException for others.");
        TileChoice x = new TileChoice();
        TileChoice y = Check.with(MACHINE, PROGRAM);
        for (int what : new int[] {-1, 14, 15, 256, LEAST, GREATEST}) {
            Check.refuses("new count(" + what + ")", IllegalArgumentException.class, () -> x.count(what));
            Check.refuses("count(" + what + ")", IllegalArgumentException.class, () -> y.count(what));
        }
        Check.same("count(0)", 4, y.count(0));
        Check.same("count(13)", 1, y.count(13));
    }

    private static void takesThePlace() {
        Check.sentence("A MACHINE or PROGRAM that is right takes the place of the one before (a WRONG one: there is none)");
        TileChoice x = Check.with(MACHINE, PROGRAM);
        Check.same("sum", 16, x.count(9));
        Check.machine(x, "s = ret(r) 10 s = set(r) 20 r = # 30 r = var 40");
        Check.same("sum with the new machine", 160, x.count(9));
        Check.program(x, "ret(v1)");
        Check.same("sum of the new program", 50, x.count(9));
        for (String wrong : new String[] {"", "s", "s = q 1", "s = var -1", "s = #(2:1) 1"}) {
            Check.same("(test itself)", 1, Check.machine(x, wrong) >= 0 ? 1 : 0);
            Check.same("no machine", 0, x.count(0));
            Check.same("the program stays", 1, x.count(3));
            Check.refuses("cost", IllegalStateException.class, () -> x.cost(0, 0));
            Check.same("run", 0, x.run(false));
            Check.machine(x, MACHINE);
            Check.same("sum", 5, x.count(9));
        }
        for (String wrong : new String[] {"", "ret", "ret(1)".repeat(61), "store(add(1,2), mul(neg(3), 4))".repeat(51)}) {
            Check.same("(test itself)", 1, Check.program(x, wrong) >= 0 ? 1 : 0);
            Check.same("no program", 0, x.count(3));
            Check.same("the machine stays", 4, x.count(0));
            Check.refuses("cost", IllegalStateException.class, () -> x.cost(0, 0));
            Check.program(x, "ret(5)");
            Check.same("sum", 4, x.count(9));
        }
    }

    private static void orderOfExceptions() {
        Check.sentence("Of several exceptions the first that fits in the order of the heading is thrown");
        TileChoice x = new TileChoice();
        for (int wrong : new int[] {-1, 10000}) {
            Check.refuses("cost", IllegalStateException.class, () -> x.cost(wrong, wrong));
            Check.refuses("rule", IllegalStateException.class, () -> x.rule(wrong, wrong));
            Check.refuses("state", IllegalStateException.class, () -> x.state(wrong));
            Check.refuses("variable", IllegalStateException.class, () -> x.variable(wrong));
            Check.refuses("cell", IllegalStateException.class, () -> x.cell(wrong));
        }
        Check.machine(x, MACHINE);
        Check.program(x, PROGRAM);
        x.run(true);
        for (int wrong : new int[] {-1, 10000}) {
            Check.refuses("cost", IndexOutOfBoundsException.class, () -> x.cost(wrong, wrong));
            Check.refuses("rule", IndexOutOfBoundsException.class, () -> x.rule(wrong, wrong));
            Check.refuses("state", IndexOutOfBoundsException.class, () -> x.state(wrong));
            Check.refuses("variable", IllegalArgumentException.class, () -> x.variable(wrong));
            Check.refuses("cell", IndexOutOfBoundsException.class, () -> x.cell(wrong));
        }
    }

    private static void whatThrowsChangesNothing() {
        Check.sentence("what throws changes nothing, but the TAPE where it says so");
        TileChoice x = new TileChoice();
        refuseAll("new", x);
        x = new TileChoice();
        Check.program(x, PROGRAM);
        x.run(false);
        refuseAll("a program that ran", x);
        x = Check.with(MACHINE, PROGRAM);
        x.list();
        x.run(true);
        refuseAll("both, listed, ran", x);
        x = Check.with(MACHINE, PROGRAM);
        x.list();
        Check.program(x, PROGRAM + "store(1, 2)");
        x.run(false);
        refuseAll("one not covered, ran", x);
        Check.machine(x, "?");
        refuseAll("a machine that is wrong", x);
    }

    /** Calls that throw in whatever state the object is; those that do not fit there are left out. */
    private static void refuseAll(String what, TileChoice x) {
        Check.feed(x, " ".repeat(30));
        String before = Snapshot.of(x);
        Check.Call[] calls = {() -> x.end(-1), () -> x.end(31), () -> x.begin(-1, 9), () -> x.begin(16, 9),
            () -> x.count(-1), () -> x.count(14), () -> x.cost(-1, 0), () -> x.cost(0, 99), () -> x.rule(99, 0),
            () -> x.rule(0, -1), () -> x.state(-1), () -> x.state(99), () -> x.variable(16), () -> x.variable(-1),
            () -> x.cell(256), () -> x.cell(-1), () -> x.word(-1), () -> x.word(9999)};
        for (int i = 0; i < calls.length; i++) {
            Check.same(what + ": call " + i + " throws", 1, throwsSome(calls[i]) ? 1 : 0);
        }
        boolean covered = x.count(0) > 0 && x.count(3) > 0 && x.count(8) == x.count(3);
        if (!covered) {
            Check.same(what + ": run(true) throws", 1, throwsSome(() -> x.run(true)) ? 1 : 0);
            Check.same(what + ": list throws", 1, throwsSome(() -> x.list()) ? 1 : 0);
        }
        if (x.count(3) == 0) {
            Check.same(what + ": run(false) throws", 1, throwsSome(() -> x.run(false)) ? 1 : 0);
        }
        Check.same(what + ": is as it was", before, Snapshot.of(x));
        // BEGIN can be asked but by a call that changes something: so it comes last.
        for (int v = 0; v < 16; v++) {
            Check.same(what + ": BEGIN of " + v, 0, x.begin(v, 0));
        }
        Check.same(what + ": the tape is as it was", 30, x.end(30));
        x.end(0);
    }

    private static boolean throwsSome(Check.Call call) {
        try {
            call.answer();
            return false;
        } catch (IllegalStateException | IllegalArgumentException | IndexOutOfBoundsException e) {
            return true;
        }
    }
}
