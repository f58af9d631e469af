/** FLAT RULES and COVERING, and promises 8 and 9: each edge, with what is just inside it and just outside. */
public final class CoverEdgesTest {
    public static void main(String[] args) {
        partsFirst();
        costOfParts();
        whatIsLeft();
        numbers();
        sameName();
        sums();
        chainsBehind();
        againAndAgain();
        less();
        whateverItIs();
        greatestMachine();
        goal();
        notCovered();
        costRefused();
        ruleRefused();
        Check.finish();
    }

    private static void node(TileChoice x, int n, int k, int cost, int rule) {
        Check.same("cost(" + n + ", " + k + ")", cost, x.cost(n, k));
        Check.same("rule(" + n + ", " + k + ")", rule, x.rule(n, k));
    }

    private static void partsFirst() {
        Check.sentence("each PAT within a PAT that is no KIND becomes a KIND of its own (a PART), by a FLAT RULE of cost 0 in "
                + "front of that of the RULE, parts first, from the left.");
        // add: 0, 1 are its parts' PARTS (var, neg's # before neg), then the RULE; the next RULE comes behind all of them.
        TileChoice x = Check.with("r = add(var, neg(#)) 7 r = var 1 r = neg(r) 2 r = # 3",
                "ret(add(v1, neg(5)))");
        Check.same("flat rules", 7, x.count(2));
        Check.same("kinds without PARTS", 1, x.count(1));
        node(x, 1, 0, 7, 3);
        node(x, 2, 0, 1, 4);
        node(x, 3, 0, 5, 5);
        node(x, 4, 0, 3, 6);
        // A KIND within a PAT makes none; each PAT makes its own, though it be the same as another.
        Check.same("KINDS alone", 1, TextCheck.rightMachine("k = add(k, k) 1").count(2));
        Check.same("one PART", 2, TextCheck.rightMachine("k = add(k, var) 1").count(2));
        Check.same("two PARTS", 3, TextCheck.rightMachine("k = add(var, var) 1").count(2));
        Check.same("four PARTS", 6, TextCheck.rightMachine("k = add(var, var) 1 k = add(var, var) 1").count(2));
        Check.same("PARTS of PARTS", 4, TextCheck.rightMachine("k = neg(neg(neg(var))) 1").count(2));
        Check.same("all there can be", 120,
                TextCheck.rightMachine("k = neg(var) 1 ".repeat(60)).count(2));
        Check.same("and all without one", 60, TextCheck.rightMachine("k = neg(k) 1 ".repeat(60)).count(2));
        TileChoice y = Check.with("k = neg(var) 1 ".repeat(59) + "k = neg(#) 1 ", "ret(neg(5))");
        node(y, 1, 0, 1, 119);
    }

    private static void costOfParts() {
        Check.sentence("What is left: K = K (a CHAIN), K = var, K = #.., K = OP (K ..), with the cost of its RULE.");
        TileChoice x = Check.with("s = ret(neg(not(load(var)))) 1000", "ret(neg(not(load(v1))))");
        node(x, 0, 0, 1000, 4);
        node(x, 1, 0, -1, -1);
        Check.same("sum", 1000, x.count(9));
    }

    private static void whatIsLeft() {
        Check.sentence("FLAT RULES are numbered from 0.");
        TileChoice x = Check.with("s = ret(r) 0 r = c 0 c = var 0 c = # 0 c = neg(r) 0", "ret(neg(v1)) ret(2)");
        node(x, 0, 0, 0, 0);
        node(x, 1, 1, 0, 1);
        node(x, 1, 2, 0, 4);
        node(x, 2, 2, 0, 2);
        node(x, 4, 2, 0, 3);
    }

    private static void numbers() {
        Check.sentence("var, # (any number; that one; from the first to the second one): its cost");
        String machine = "s = set(any) 0 any = # 1 one = #(5) 2 few = #(5:7) 3 minus = #(-5:-5) 4"
                + " low = #(-2147483648:-2147483647) 5 high = #(2147483646:2147483647) 6 all = #(-2147483648:2147483647) 7"
                + " v = var 8";
        int[] given = {Integer.MIN_VALUE, Integer.MIN_VALUE + 1, Integer.MIN_VALUE + 2, -6, -5, -4, -1, 0, 1, 4, 5, 6, 7, 8,
            Integer.MAX_VALUE - 2, Integer.MAX_VALUE - 1, Integer.MAX_VALUE};
        StringBuilder program = new StringBuilder();
        for (int number : given) {
            program.append("set v1(" + number + ")");
        }
        TileChoice x = Check.with(machine, program + "set v1(v5)");
        for (int i = 0; i < given.length; i++) {
            int n = given[i];
            node(x, 2 * i + 1, 1, 1, 1);
            has(x, 2 * i + 1, 2, n == 5);
            has(x, 2 * i + 1, 3, n >= 5 && n <= 7);
            has(x, 2 * i + 1, 4, n == -5);
            has(x, 2 * i + 1, 5, n <= Integer.MIN_VALUE + 1);
            has(x, 2 * i + 1, 6, n >= Integer.MAX_VALUE - 1);
            has(x, 2 * i + 1, 7, true);
            has(x, 2 * i + 1, 8, false);
        }
        int variable = 2 * given.length + 1;
        for (int k = 1; k <= 7; k++) {
            has(x, variable, k, false);
        }
        has(x, variable, 8, true);
    }

    private static void has(TileChoice x, int n, int k, boolean can) {
        node(x, n, k, can ? k : -1, can ? k : -1);
    }

    private static void sameName() {
        Check.sentence("OP of the same name: its cost and those at which the parts can be its KS; set, store, ret likewise");
        StringBuilder machine = new StringBuilder("s = set(r) 0 r = # 0");
        StringBuilder program = new StringBuilder();
        int rule = 2;
        for (String op : Model.TWO) {
            machine.append(" k" + op + " = " + op + "(r, r) " + rule++);
            program.append("set v1(" + op + "(1, 2))");
        }
        for (String op : Model.ONE) {
            machine.append(" k" + op + " = " + op + "(r) " + rule++);
            program.append("set v1(" + op + "(1))");
        }
        TileChoice x = Check.with(machine.toString(), program.toString());
        int n = 1;
        for (int op = 0; op < 12; op++) {
            for (int k = 2; k < 14; k++) {
                has(x, n, k, k == op + 2);
            }
            n += op < 9 ? 4 : 3;
        }
        TileChoice y = Check.with("a = set(r) 1 b = store(r, r) 2 c = ret(r) 3 r = # 10", "set v1(1) store(1, 2) ret(1)");
        int[][] due = {{11, -1, -1}, {-1, 22, -1}, {-1, -1, 13}};
        int[] top = {0, 2, 5};
        for (int t = 0; t < 3; t++) {
            for (int k = 0; k < 3; k++) {
                Check.same("cost(" + top[t] + ", " + k + ")", due[t][k], y.cost(top[t], k));
            }
        }
    }

    private static void sums() {
        Check.sentence("its cost and those at which the parts can be its KS");
        // Each part by its own KIND; without one of them it can't be.
        TileChoice x = Check.with("s = store(a, b) 100 a = # 1 b = # 10 b = var 20", "store(1, 2) store(1, v2) store(v1, 2)");
        node(x, 0, 0, 111, 0);
        node(x, 3, 0, 121, 0);
        node(x, 6, 0, -1, -1);
        // As dear as it can be: 400 NODES, each by 20 FLAT RULES of cost 1000.
        StringBuilder machine = new StringBuilder();
        for (int k = 0; k < 19; k++) {
            machine.append("k" + (char) ('a' + k) + " = k" + (char) ('b' + k) + " 1000 ");
        }
        for (String form : new String[] {"store(ka, ka)", "add(ka, ka)", "neg(ka)", "#"}) {
            machine.append("kt = " + form + " 1000 ");
        }
        TileChoice y = Check.with(machine.toString(), "store(add(1,2), add(neg(3), 4))".repeat(50));
        Check.same("sum", 400 * 20 * 1000, y.count(9));
        node(y, 0, 0, 8 * 20 * 1000, 0);
        node(y, 399, 19, 1000, 22);
    }

    private static void chainsBehind() {
        Check.sentence("first all that are not CHAINS, in order, then the CHAINS, in order");
        // Of the same cost: what is no CHAIN stays, though the CHAIN stands before it.
        TileChoice x = Check.with("s = ret(r) 0 r = c 1 c = var 1 r = var 2", "ret(v1)");
        node(x, 1, 1, 2, 3);
        // Dearer than the CHAIN by one: the CHAIN takes its place.
        TileChoice y = Check.with("s = ret(r) 0 r = c 1 c = var 1 r = var 3", "ret(v1)");
        node(y, 1, 1, 2, 1);
        // In order: of two that cost the same the first, be they CHAINS or not.
        TileChoice z = Check.with("s = ret(r) 0 r = c 1 r = d 1 c = var 1 d = var 1 e = var 2 e = var 2", "ret(v1)");
        node(z, 1, 1, 2, 1);
        node(z, 1, 4, 2, 5);
        // A CHAIN uses what a CHAIN before it in the same go has found: then r comes by c first, else by b.
        TileChoice u = Check.with("s = ret(r) 0 c = b 1 r = c 1 r = b 2 b = var 1", "ret(v1)");
        node(u, 1, 2, 3, 2);
        TileChoice w = Check.with("s = ret(r) 0 r = c 1 c = b 1 r = b 2 b = var 1", "ret(v1)");
        node(w, 1, 1, 3, 3);
    }

    private static void againAndAgain() {
        Check.sentence("again and again till nothing changes");
        // All twenty KINDS, each by the next one, against the order in which they are tried.
        StringBuilder machine = new StringBuilder("ka = ret(kb) 0 ");
        for (int k = 1; k < 19; k++) {
            machine.append("k" + (char) ('a' + k) + " = k" + (char) ('b' + k) + " 1 ");
        }
        TileChoice x = Check.with(machine + "kt = var 1", "ret(v1)");
        for (int k = 1; k <= 19; k++) {
            node(x, 1, k, 20 - k, k);
        }
        node(x, 0, 0, 19, 0);
        Check.same("instructions", 19, x.count(12));
        // What came cheaper late goes through all that hangs on it once more.
        TileChoice y = Check.with("s = ret(a) 0 a = b 1 b = c 1 c = d 1 d = e 1 e = var 1 c = var 500 d = var 400", "ret(v1)");
        node(y, 1, 1, 5, 1);
        node(y, 1, 2, 4, 2);
        node(y, 1, 3, 3, 3);
        node(y, 1, 4, 2, 4);
        // In a ring nothing changes for ever.
        TileChoice z = Check.with("s = ret(a) 0 a = b 0 b = c 0 c = a 0 a = a 0 c = var 3", "ret(v1)");
        node(z, 1, 1, 3, 1);
        node(z, 1, 2, 3, 2);
        node(z, 1, 3, 3, 5);
    }

    private static void less() {
        Check.sentence("a K gets the FLAT RULE, if its cost is less than what it has");
        TileChoice x = Check.with("s = ret(r) 5 r = var 4 r = var 4 r = var 3 r = var 3 r = var 9 s = ret(r) 5 s = ret(r) 4",
                "ret(v1)");
        node(x, 1, 1, 3, 3);
        node(x, 0, 0, 7, 7);
        // The first FLAT RULE of all stays, too, with what costs as much or more behind it.
        node(Check.with("r = var 4 r = var 4 r = var 5 r = r 0", "ret(v1)"), 1, 0, 4, 0);
        node(Check.with("r = var 4 r = var 5 r = var 3", "ret(v1)"), 1, 0, 3, 2);
        node(Check.with("r = c 1 c = var 3 c = r 0 r = var 5", "ret(v1)"), 1, 0, 4, 0);
    }

    /** 20 KINDS and 60 PARTS, 60 RULES and 120 FLAT RULES: the last ones count as the first ones do. */
    private static void greatestMachine() {
        Check.sentence("What is left: K = K (a CHAIN), K = var, K = #.., K = OP (K ..), with the cost of its RULE.");
        StringBuilder machine = new StringBuilder("ka = ret(neg(kb)) 1");
        for (int r = 1; r < 60; r++) {
            machine.append(" k" + (char) ('a' + r % 20) + " = neg(#(" + r + ")) " + r);
        }
        TileChoice x = Check.with(machine.toString(), "ret(neg(neg(41))) ret(neg(neg(59)))");
        Check.same("rules", 60, x.count(0));
        Check.same("kinds", 20, x.count(1));
        Check.same("flat rules", 120, x.count(2));
        node(x, 0, 0, 42, 1);
        node(x, 2, 1, 41, 83);
        node(x, 6, 19, 59, 119);
        node(x, 4, 0, -1, -1);
        for (int k = 0; k < 20; k++) {
            node(x, 3, k, -1, -1);
            node(x, 7, k, -1, -1);
        }
        Check.refuses("PARTS are none", IndexOutOfBoundsException.class, () -> x.cost(3, 20));
        int[] states = {3, 2, 1, 0, 6, 6, 5, 4};
        for (int n = 0; n < 8; n++) {
            Check.same("state(" + n + ")", states[n], x.state(n));
        }
        Check.same("states", 7, x.count(10));
        Check.same("even", 1, x.even() ? 1 : 0);
    }

    private static void whateverItIs() {
        Check.sentence("(none: whatever it is)");
        TileChoice x = Check.with("s = ret(r) 1000 r = var 0 r = neg(r) 1000", "ret(neg(neg(v1))) ret(v1)");
        node(x, 0, 0, 3000, 0);
        node(x, 1, 1, 2000, 2);
        node(x, 3, 1, 0, 1);
    }

    private static void goal() {
        Check.sentence("The GOAL is the first RULE's KIND");
        TileChoice x = Check.with("s = ret(r) 3 t = ret(r) 1 r = var 1", "ret(v1)");
        Check.same("sum", 4, x.count(9));
        TileChoice y = Check.with("t = ret(r) 1 s = ret(r) 3 r = var 1", "ret(v1)");
        Check.same("sum", 2, y.count(9));
        // The first RULE may be a CHAIN; then its KIND, not the one on its right.
        TileChoice z = Check.with("s = t 5 t = ret(r) 1 r = var 1", "ret(v1)");
        Check.same("sum", 7, z.count(9));
        TileChoice u = Check.with("r = var 1 t = ret(r) 1", "ret(v1)");
        Check.same("not covered", 0, u.count(8));
    }

    private static void notCovered() {
        Check.sentence("a TREE whose first NODE can't be the GOAL is not COVERED");
        TileChoice x = Check.with("s = ret(r) 1 r = var 2 s = set(r) 4", "ret(v1) ret(5) set v1(v2) store(v1, v2)");
        Check.same("covered", 2, x.count(8));
        Check.same("sum of the covered alone", 9, x.count(9));
        Check.same("instructions", 0, x.count(12));
        Check.same("need", 0, x.count(13));
        TileChoice y = Check.with("s = ret(r) 1 r = var 2 s = set(r) 4", "ret(v1) set v1(v2)");
        Check.same("covered", 2, y.count(8));
        Check.same("instructions", 4, y.count(12));
        Check.same("need", 1, y.count(13));
        TileChoice z = Check.with("s = ret(r) 0 r = var 0", "ret(5)");
        Check.same("none", 0, z.count(8));
        Check.same("no sum", 0, z.count(9));
        // Covered at cost 0 is covered.
        TileChoice u = Check.with("s = ret(r) 0 r = var 0", "ret(v1)");
        Check.same("covered", 1, u.count(8));
        Check.same("no sum", 0, u.count(9));
        TileChoice w = Check.with("s = ret(r) 0 r = var 0", "ret(v1)".repeat(60));
        Check.same("all of 60", 60, w.count(8));
    }

    private static final String PARTS = "s = ret(neg(r)) 1 r = var 2";

    private static void costRefused() {
        Check.sentence("The cost at which NODE n can be KIND k, -1 if it can't. IllegalStateException: there is no MACHINE or no "
                + "PROGRAM. IndexOutOfBoundsException: n or k is none of them (PARTS are none).");
        TileChoice x = new TileChoice();
        Check.refuses("none", IllegalStateException.class, () -> x.cost(-1, -1));
        Check.program(x, "ret(neg(v1))");
        Check.refuses("no machine", IllegalStateException.class, () -> x.cost(0, 0));
        Check.refuses("no machine", IllegalStateException.class, () -> x.cost(3, 0));
        Check.machine(x, PARTS);
        Check.same("cost(0, 0)", 3, x.cost(0, 0));
        Check.same("cost(0, 1)", -1, x.cost(0, 1));
        Check.same("cost(1, 1)", -1, x.cost(1, 1));
        Check.same("cost(2, 1)", 2, x.cost(2, 1));
        int[][] none = {{-1, 0}, {3, 0}, {0, -1}, {0, 2}, {2, 2}, {3, 2}, {400, 0}, {0, 20}, {Integer.MIN_VALUE, 0},
            {Integer.MAX_VALUE, 1}, {1, Integer.MIN_VALUE}, {1, Integer.MAX_VALUE}};
        for (int[] nk : none) {
            Check.refuses("cost(" + nk[0] + ", " + nk[1] + ")", IndexOutOfBoundsException.class, () -> x.cost(nk[0], nk[1]));
        }
        Check.program(x, "ret(v1) ?");
        Check.refuses("no program", IllegalStateException.class, () -> x.cost(0, 0));
        Check.refuses("no program", IllegalStateException.class, () -> x.cost(0, 2));
    }

    private static void ruleRefused() {
        Check.sentence("The FLAT RULE by which NODE n is KIND k, -1 if it can't be. Likewise.");
        TileChoice x = new TileChoice();
        Check.refuses("none", IllegalStateException.class, () -> x.rule(-1, -1));
        Check.machine(x, PARTS);
        Check.refuses("no program", IllegalStateException.class, () -> x.rule(0, 0));
        Check.refuses("no program", IllegalStateException.class, () -> x.rule(0, 2));
        Check.program(x, "ret(neg(v1))");
        Check.same("rule(0, 0)", 1, x.rule(0, 0));
        Check.same("rule(0, 1)", -1, x.rule(0, 1));
        Check.same("rule(2, 1)", 2, x.rule(2, 1));
        int[][] none = {{-1, 0}, {3, 0}, {0, -1}, {0, 2}, {2, 2}, {3, 2}, {400, 0}, {0, 20}, {Integer.MIN_VALUE, 0},
            {Integer.MAX_VALUE, 1}, {1, Integer.MIN_VALUE}, {1, Integer.MAX_VALUE}};
        for (int[] nk : none) {
            Check.refuses("rule(" + nk[0] + ", " + nk[1] + ")", IndexOutOfBoundsException.class, () -> x.rule(nk[0], nk[1]));
        }
        Check.machine(x, "?");
        Check.refuses("no machine", IllegalStateException.class, () -> x.rule(0, 0));
        Check.refuses("no machine", IllegalStateException.class, () -> x.rule(3, 0));
    }
}
