/** CHOOSING and LISTING, and promises 15 and 16: each edge, with what is just inside it and just outside. */
public final class ChoiceEdgesTest {
    private static final String PLAIN = "s = ret(r) 1 s = store(r, r) 1 r = var 1 r = # 1 r = add(r, r) 1 r = neg(r) 1";

    public static void main(String[] args) {
        allCovered();
        fromTheGoalOn();
        deepest();
        above0();
        operands();
        need();
        oneAtLeast();
        greatestFirst();
        leftFirst();
        leastRegister();
        beginOfATree();
        severalFirst();
        form();
        greatestNeed();
        listRefused();
        resultAtFirst();
        words();
        Check.finish();
    }

    private static void listing(String machine, String program, int need, String... lines) {
        TileChoice x = Check.with(machine, program);
        String due = lines.length == 0 ? "" : String.join("\n", lines) + "\n";
        Check.same("instructions of " + program, lines.length, x.count(12));
        Check.same("need of " + program, need, x.count(13));
        Check.same("list of " + program, due.length(), x.list());
        Check.same("bytes of " + program, due.length(), x.count(6));
        Check.same("listing of " + program, due, Check.result(x));
    }

    private static void allCovered() {
        Check.sentence("CHOOSING, if all TREES are COVERED");
        TileChoice x = Check.with(PLAIN, "ret(1) ret(2) ret(3)");
        Check.same("all", 6, x.count(12));
        for (String program : new String[] {"ret(not(1)) ret(2) ret(3)", "ret(1) ret(not(2)) ret(3)", "ret(1) ret(2) ret(not(3))"}) {
            Check.program(x, program);
            Check.same("two of three", 2, x.count(8));
            Check.same("instructions of " + program, 0, x.count(12));
            Check.same("need of " + program, 0, x.count(13));
            Check.refuses("list of " + program, IllegalStateException.class, () -> x.list());
        }
        Check.program(x, "ret(1)");
        Check.same("all again", 2, x.count(12));
    }

    private static void fromTheGoalOn() {
        Check.sentence("from the first NODE and the GOAL on: a NODE as K takes K's FLAT RULE there; then its parts as its KS, "
                + "from the left (a CHAIN: the NODE itself as that K)");
        // The same number as a and as b: by other RULES, each with its CHAIN.
        listing("s = store(a, b) 1 a = c 1 b = d 1 c = # 1 d = # 1", "store(5, 5)", 2,
                "r0 = 3", "r0 = 1 r0", "r1 = 4", "r1 = 2 r1", "r0 = 0 r0 r1");
        // CHAINS at the first NODE, all of them INSTRUCTIONS of one NODE.
        listing("s = t 1 t = u 1 u = ret(a) 1 a = # 1", "ret(5)", 1, "r0 = 3", "r0 = 2 r0", "r0 = 1 r0", "r0 = 0 r0");
        // As many CHAINS as there can be, to the first NODE and to the last.
        StringBuilder machine = new StringBuilder();
        StringBuilder due = new StringBuilder("r0 = 20\n");
        for (int k = 0; k < 19; k++) {
            machine.append("k" + (char) ('a' + k) + " = k" + (char) ('b' + k) + " 1 ");
        }
        machine.append("kt = ret(ka) 1 kt = # 1");
        for (int k = 18; k >= 0; k--) {
            due.append("r0 = " + k + " r0\n");
        }
        due.append("r0 = 19 r0\n");
        for (int k = 18; k >= 0; k--) {
            due.append("r0 = " + k + " r0\n");
        }
        TileChoice x = Check.with(machine.toString(), "ret(5)");
        Check.same("instructions", 40, x.count(12));
        Check.same("listing", due.toString(), Check.listing(x));
    }

    /** As deep as E can be open, down the left parts and down the right ones. */
    private static void deepest() {
        Check.sentence("then its parts as its KS, from the left");
        String machine = "s = ret(r) 1 s = store(r, r) 1 r = # 1 r = sub(r, r) 1 r = neg(r) 1";
        String left = "sub(".repeat(29) + "1" + ", 2)".repeat(29);
        String right = "sub(2, ".repeat(29) + "1" + ")".repeat(29);
        TileChoice x = Check.with(machine, "ret(" + left + ")");
        Check.same("left: instructions", 60, x.count(12));
        Check.same("left: need", 2, x.count(13));
        Check.same("left: run(true)", 1 - 2 * 29, x.run(true));
        Check.same("left: run(false)", 1 - 2 * 29, x.run(false));
        TileChoice y = Check.with(machine, "ret(" + right + ")");
        Check.same("right: instructions", 60, y.count(12));
        Check.same("right: need", 2, y.count(13));
        // 2 - (2 - (.. - 1)): 29 of them.
        Check.same("right: run(true)", 1, y.run(true));
        Check.same("right: run(false)", 1, y.run(false));
        TileChoice z = Check.with(machine, "store(" + left + "," + right + ")");
        Check.same("both: instructions", 119, z.count(12));
        Check.same("both: need", 3, z.count(13));
        z.run(true);
        Check.same("both: cell", 1, z.cell(1 - 2 * 29 & 255));
        TileChoice u = Check.with(machine, "ret(" + "neg(".repeat(29) + "7" + ")".repeat(30));
        Check.same("neg: listing", "r0 = 2\n" + "r0 = 4 r0\n".repeat(29) + "r0 = 0 r0\n", Check.listing(u));
    }

    private static void above0() {
        Check.sentence("FLAT RULES with a cost above 0 are INSTRUCTIONS");
        listing("s = ret(r) 1 r = # 1", "ret(5)", 1, "r0 = 1", "r0 = 0 r0");
        listing("s = ret(r) 1 r = # 0", "ret(5)", 1, "r0 = 0");
        listing("s = ret(r) 0 r = # 1", "ret(5)", 1, "r0 = 1");
        listing("s = ret(r) 0 r = # 0", "ret(5)", 0);
        listing("s = ret(r) 1000 r = # 1000", "ret(5)", 1, "r0 = 1", "r0 = 0 r0");
        // A CHAIN of cost 0 is none, one of cost 1 is.
        listing("s = ret(r) 1 r = c 0 c = # 1", "ret(5)", 1, "r0 = 2", "r0 = 0 r0");
        listing("s = ret(r) 1 r = c 1 c = # 1", "ret(5)", 1, "r0 = 2", "r0 = 1 r0", "r0 = 0 r0");
        // PARTS cost nothing.
        listing("s = ret(add(neg(#), r)) 7 r = # 1", "ret(add(neg(1), 2))", 1, "r0 = 1", "r0 = 0 r0");
    }

    private static void operands() {
        Check.sentence("what INSTRUCTIONS come below one without others between are its OPERANDS, from the left");
        // Through RULES that cost nothing, and past PARTS; none for numbers.
        listing("s = ret(r) 1 r = add(r, r) 0 r = var 1 r = # 0", "ret(add(add(v1, 2), add(add(v3, v4), 5)))", 3,
                "r0 = 2", "r1 = 2", "r2 = 2", "r0 = 0 r0 r1 r2");
        listing("s = ret(r) 1 r = add(neg(r), sub(r, r)) 1 r = var 1 r = # 1", "ret(add(neg(1), sub(v1, 2)))", 3,
                "r0 = 3", "r1 = 2", "r2 = 3", "r0 = 1 r0 r1 r2", "r0 = 0 r0");
        // An OPERAND's own OPERANDS are not among them.
        listing("s = ret(r) 1 r = neg(r) 1 r = # 1", "ret(neg(neg(5)))", 1, "r0 = 2", "r0 = 1 r0", "r0 = 1 r0", "r0 = 0 r0");
    }

    /** A tree of adds that needs as many registers as its depth, with a PLAIN machine. */
    private static String full(int depth) {
        return depth <= 1 ? "5" : "add(" + full(depth - 1) + "," + full(depth - 1) + ")";
    }

    private static void need() {
        Check.sentence("NEED of one: of its OPERANDS' NEEDS, the greatest first, the greatest of NEED and how many stand before "
                + "it; 1 at least.");
        for (int depth = 1; depth <= 7; depth++) {
            Check.same("full tree of " + depth, depth, Check.with(PLAIN, "ret(" + full(depth) + ")").count(13));
        }
        // NEEDS 3 and 2: 3 suffices; 3 and 3: 4; 2, 2 and 2: 4; 3, 2 and 1: 3; 1, 1, 1 and 1: 4.
        need("add(" + full(3) + "," + full(2) + ")", 3);
        need("add(" + full(2) + "," + full(3) + ")", 3);
        need("add(" + full(3) + "," + full(3) + ")", 4);
        need("sub(" + full(2) + ", sub(" + full(2) + "," + full(2) + "))", 4);
        need("sub(" + full(1) + ", sub(" + full(2) + "," + full(3) + "))", 3);
        need("sub(" + full(3) + ", sub(" + full(1) + "," + full(2) + "))", 3);
        need("sub(" + full(3) + ", sub(" + full(2) + "," + full(2) + "))", 4);
        need("sub(sub(1, 2), sub(3, 4))", 4);
        need("sub(sub(1, 2), sub(3, sub(4, 5)))", 5);
        need("neg(neg(" + full(4) + "))", 4);
    }

    private static void need(String expression, int due) {
        TileChoice x = Check.with(PLAIN + " r = sub(r, r) 0", "ret(" + expression + ")");
        Check.same("need of " + expression, due, x.count(13));
        int most = 0;
        for (String line : Check.listing(x).split("\n")) {
            most = Math.max(most, Integer.parseInt(line.substring(1, line.indexOf(' '))) + 1);
        }
        Check.same("registers of " + expression, due, most);
    }

    private static void oneAtLeast() {
        Check.sentence("1 at least");
        listing("s = ret(r) 1 r = # 0", "ret(5)", 1, "r0 = 0");
        listing("s = ret(r) 0 r = # 1", "ret(5)", 1, "r0 = 1");
        listing("s = ret(r) 0 r = # 0", "ret(5)", 0);
    }

    private static void greatestFirst() {
        Check.sentence("They are put: OPERANDS by their NEEDS, the greatest first");
        listing(PLAIN, "ret(add(1, add(2, v3)))", 2,
                "r0 = 3", "r1 = 2", "r0 = 4 r0 r1", "r1 = 3", "r0 = 4 r1 r0", "r0 = 0 r0");
        listing(PLAIN, "ret(add(add(1, v2), 3))", 2,
                "r0 = 3", "r1 = 2", "r0 = 4 r0 r1", "r1 = 3", "r0 = 4 r0 r1", "r0 = 0 r0");
        // By NEED, not by how much is below: neg(neg(v1)) needs 1, add needs 2.
        listing(PLAIN, "store(neg(neg(v1)), add(1, 2))", 2,
                "r0 = 3", "r1 = 3", "r0 = 4 r0 r1", "r1 = 2", "r1 = 5 r1", "r1 = 5 r1", "r0 = 1 r1 r0");
        // Of three: the last (3), the middle one (2), the first (1).
        listing(PLAIN + " r = sub(r, r) 0", "ret(sub(v1, sub(add(1, 2), add(add(3, 4), add(5, 6)))))", 3,
                "r0 = 3", "r1 = 3", "r0 = 4 r0 r1", "r1 = 3", "r2 = 3", "r1 = 4 r1 r2", "r0 = 4 r0 r1",
                "r1 = 3", "r2 = 3", "r1 = 4 r1 r2", "r2 = 2", "r0 = 0 r2 r1 r0");
    }

    private static void leftFirst() {
        Check.sentence("(of several the left first), each with all that is below it; then it");
        listing(PLAIN, "store(v1, 2)", 2, "r0 = 2", "r1 = 3", "r0 = 1 r0 r1");
        listing(PLAIN, "store(1, v2)", 2, "r0 = 3", "r1 = 2", "r0 = 1 r0 r1");
        listing(PLAIN, "store(neg(1), neg(v2))", 2, "r0 = 3", "r0 = 5 r0", "r1 = 2", "r1 = 5 r1", "r0 = 1 r0 r1");
        // Two of NEED 2 and, between them, one of NEED 1: first the two, from the left.
        listing(PLAIN + " r = sub(r, r) 0", "ret(sub(add(1, 2), sub(v1, add(v3, v4))))", 3,
                "r0 = 3", "r1 = 3", "r0 = 4 r0 r1", "r1 = 2", "r2 = 2", "r1 = 4 r1 r2", "r2 = 2", "r0 = 0 r0 r2 r1");
    }

    private static void leastRegister() {
        Check.sentence("Each gets the least register that is free, its OPERANDS' being free by then");
        // Its OPERANDS stand in r1 and r0, whichever is the left one: it gets r0.
        listing(PLAIN, "ret(add(1, neg(add(2, 3))))", 2,
                "r0 = 3", "r1 = 3", "r0 = 4 r0 r1", "r0 = 5 r0", "r1 = 3", "r0 = 4 r1 r0", "r0 = 0 r0");
        // r0 is kept, so the right part's add gets r1, the less of its own two.
        listing(PLAIN, "ret(add(add(1, 2), add(3, 4)))", 3,
                "r0 = 3", "r1 = 3", "r0 = 4 r0 r1", "r1 = 3", "r2 = 3", "r1 = 4 r1 r2", "r0 = 4 r0 r1", "r0 = 0 r0");
        // What has no OPERANDS takes the least that is free.
        listing("s = store(r, r) 1 r = # 1 r = neg(#) 0", "store(neg(1), 2)", 1, "r0 = 1", "r0 = 0 r0");
    }

    private static void beginOfATree() {
        Check.sentence("at the begin of a TREE all are free");
        listing("s = store(r, r) 0 s = ret(r) 0 r = # 1", "store(1, 2) store(3, 4) ret(5)", 1,
                "r0 = 2", "r1 = 2", "r0 = 2", "r1 = 2", "r0 = 2");
        listing("s = store(r, r) 1 s = ret(r) 1 r = # 1", "store(1, 2) ret(5)", 2,
                "r0 = 2", "r1 = 2", "r0 = 0 r0 r1", "r0 = 2", "r0 = 1 r0");
    }

    private static void severalFirst() {
        Check.sentence("A TREE whose first INSTRUCTIONS are several (it has none at its first NODE): these likewise, as OPERANDS "
                + "of none.");
        String machine = "s = store(r, r) 0 s = ret(r) 0 r = var 1 r = add(r, r) 1 r = sub(r, r) 0";
        // By their NEEDS, the greatest first, of several the left first; each keeps its register up to the TREE's end.
        listing(machine, "store(v1, v2)", 1, "r0 = 2", "r1 = 2");
        listing(machine, "store(v1, add(v2, v3))", 2, "r0 = 2", "r1 = 2", "r0 = 3 r0 r1", "r1 = 2");
        listing(machine, "store(add(v2, v3), v1)", 2, "r0 = 2", "r1 = 2", "r0 = 3 r0 r1", "r1 = 2");
        listing(machine, "store(sub(v1, add(v2, v3)), sub(v4, add(v5, v6)))", 2,
                "r0 = 2", "r1 = 2", "r0 = 3 r0 r1", "r1 = 2", "r2 = 2", "r1 = 3 r1 r2", "r2 = 2", "r3 = 2");
        // One alone, and none.
        listing(machine, "ret(v1) ret(v2)", 1, "r0 = 2", "r0 = 2");
        // Many, and once more with the same object: what was there before is gone.
        TileChoice x = Check.with("s = ret(r) 0 r = add(r, r) 0 r = # 1", "ret(" + sum(60) + ")");
        String first = Check.listing(x);
        Check.program(x, "ret(" + sum(60) + ")");
        Check.same("once more", first, Check.listing(x));
        Check.program(x, "ret(1)");
        Check.same("then one", "r0 = 2\n", Check.listing(x));
        listing("s = ret(r) 0 r = # 0", "ret(1) ret(2)", 0);
    }

    private static void form() {
        Check.sentence("for each INSTRUCTION in order \"rN = RULE\" with its RULE's number (from 0), and for each OPERAND \" rM\"; a "
                + "byte 10 behind each.");
        // The RULE's number, not the FLAT RULE's; numbers of one digit and of two.
        for (int rule : new int[] {1, 9, 10, 11, 58, 59}) {
            listing("s = ret(neg(r)) 1 " + "s = set(neg(r)) 1 ".repeat(rule - 1) + "r = # 1", "ret(neg(5))", 1,
                    "r0 = " + rule, "r0 = 0 r0");
        }
        // Registers of one, two and three digits.
        for (int leaves : new int[] {1, 2, 9, 10, 11, 99, 100, 101, 199}) {
            String[] due = new String[leaves + 1];
            StringBuilder last = new StringBuilder("r0 = 0");
            for (int r = 0; r < leaves; r++) {
                due[r] = "r" + r + " = 2";
                last.append(" r" + r);
            }
            due[leaves] = last.toString();
            listing("s = ret(r) 1 r = add(r, r) 0 r = # 1", "ret(" + sum(leaves) + ")", leaves, due);
        }
    }

    private static String sum(int leaves) {
        return leaves == 1 ? "5" : "add(" + sum(leaves / 2) + "," + sum(leaves - leaves / 2) + ")";
    }

    private static void greatestNeed() {
        Check.sentence("12: INSTRUCTIONS, 13: the greatest NEED (0 without any)");
        Check.same("of the first TREE", 4, Check.with(PLAIN, "ret(" + full(4) + ") ret(1)").count(13));
        Check.same("of the last TREE", 4, Check.with(PLAIN, "ret(1) ret(" + full(4) + ")").count(13));
        Check.same("of the middle one", 3, Check.with(PLAIN, "ret(1) store(1, " + full(3) + ") ret(1)").count(13));
        TileChoice x = Check.with("s = ret(r) 0 r = # 0 r = neg(r) 1", "ret(1) ret(neg(2)) ret(3)");
        Check.same("one instruction", 1, x.count(12));
        Check.same("one need", 1, x.count(13));
        Check.program(x, "ret(1) ret(3)");
        Check.same("none", 0, x.count(12));
        Check.same("no need", 0, x.count(13));
    }

    private static void listRefused() {
        Check.sentence("RESULT is the LISTING: its length. IllegalStateException: there is no MACHINE, no PROGRAM, or a TREE that is "
                + "not COVERED.");
        TileChoice x = new TileChoice();
        Check.refuses("none", IllegalStateException.class, () -> x.list());
        Check.machine(x, PLAIN);
        Check.refuses("no program", IllegalStateException.class, () -> x.list());
        Check.program(x, "ret(5)");
        Check.same("both", 17, x.list());
        Check.program(x, "ret(5) ret(not(5))");
        Check.refuses("one not covered", IllegalStateException.class, () -> x.list());
        Check.same("RESULT is as it was", 17, x.count(6));
        Check.machine(x, "?");
        Check.refuses("no machine", IllegalStateException.class, () -> x.list());
        Check.same("RESULT is as it was", "r0 = 3\nr0 = 0 r0\n", Check.result(x));
    }

    private static void resultAtFirst() {
        Check.sentence("RESULT is the latest LISTING, empty at first.");
        TileChoice x = Check.with(PLAIN, "ret(add(1, 2))");
        Check.same("empty", 0, x.count(6));
        Check.refuses("no byte", IndexOutOfBoundsException.class, () -> x.word(0));
        String first = Check.listing(x);
        Check.program(x, "ret(5)");
        Check.same("a new program alone changes nothing", first, Check.result(x));
        Check.machine(x, "s = ret(r) 1 r = # 0");
        Check.same("nor does a new machine", first, Check.result(x));
        Check.same("the next", "r0 = 0\n", Check.listing(x));
        Check.machine(x, "s = ret(r) 0 r = # 0");
        Check.same("an empty one", 0, x.list());
        Check.refuses("no byte", IndexOutOfBoundsException.class, () -> x.word(0));
    }

    private static void words() {
        Check.sentence("8 bytes of RESULT from i on, the highest first, zeros behind its end. IndexOutOfBoundsException: i is none "
                + "of its bytes.");
        // "r0 = 3\nr0 = 0 r0\n"
        TileChoice x = Check.with(PLAIN, "ret(7)");
        x.list();
        byte[] bytes = "r0 = 3\nr0 = 0 r0\n".getBytes();
        for (int i = 0; i < bytes.length; i++) {
            long due = 0;
            for (int j = i; j < i + 8; j++) {
                due = due << 8 | (j < bytes.length ? bytes[j] : 0);
            }
            Check.same("word(" + i + ")", due, x.word(i));
        }
        Check.same("the last whole one", 0x203d20302072300aL, x.word(9));
        for (int i : new int[] {-1, -8, 17, 18, 24, 256, Integer.MIN_VALUE, Integer.MAX_VALUE, Integer.MAX_VALUE - 7}) {
            Check.refuses("word(" + i + ")", IndexOutOfBoundsException.class, () -> x.word(i));
        }
        // A shorter RESULT behind a longer one: nothing of the longer one is left.
        Check.program(x, "ret(add(add(1, 2), add(3, 4)))");
        int longer = x.list();
        Check.same("its last byte", 10L << 56, x.word(longer - 1));
        Check.program(x, "ret(7)");
        Check.same("shorter", 17, x.list());
        Check.same("its last byte", 10L << 56, x.word(16));
        Check.refuses("behind it", IndexOutOfBoundsException.class, () -> x.word(17));
        Check.refuses("the longer one's last", IndexOutOfBoundsException.class, () -> x.word(longer - 1));
    }
}
