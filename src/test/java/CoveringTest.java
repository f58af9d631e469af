/** Promises 8 and 9, and 7 (8, 9): least costs and the FLAT RULES that give them. */
public final class CoveringTest {
    private static final String MACHINE = "stm = set(reg) 1 "
            + "stm = ret(reg) 1 "
            + "reg = var 1 "
            + "reg = # 2 "
            + "reg = #(0:9) 1 "
            + "reg = #(7) 0 "
            + "reg = add(reg, reg) 3 "
            + "reg = add(reg, con) 2 "
            + "con = # 0 "
            + "reg = con 1 "
            + "reg = mul(add(reg, #(1)), var) 2";

    public static void main(String[] args) {
        tiles();
        numbers();
        ties();
        chains();
        trees();
        wrongInputs();
        Check.finish();
    }

    private static void node(TileChoice x, int n, int k, int cost, int rule) {
        Check.same("cost(" + n + ", " + k + ")", cost, x.cost(n, k));
        Check.same("rule(" + n + ", " + k + ")", rule, x.rule(n, k));
    }

    private static void tiles() {
        TileChoice x = Check.with(MACHINE, "ret(mul(add(v1, 1), v2))");
        Check.same("flat rules", 14, x.count(2));
        node(x, 0, 0, 4, 1);
        node(x, 0, 1, -1, -1);
        node(x, 1, 1, 3, 13);
        node(x, 2, 1, 3, 7);
        node(x, 3, 1, 1, 2);
        node(x, 4, 1, 1, 4);
        node(x, 4, 2, 0, 8);
        node(x, 5, 1, 1, 2);
        node(x, 5, 2, -1, -1);
        Check.same("sum", 4, x.count(9));
        TileChoice y = Check.with(MACHINE, "ret(mul(add(v1, 2), v2))");
        node(y, 1, 1, -1, -1);
        node(y, 0, 0, -1, -1);
        node(y, 2, 1, 3, 7);
        Check.same("covered", 0, y.count(8));
    }

    private static void numbers() {
        TileChoice x = Check.with(MACHINE, "set v1(7) set v1(0) set v1(9) set v1(10) set v1(-1)");
        node(x, 1, 1, 0, 5);
        node(x, 3, 1, 1, 4);
        node(x, 5, 1, 1, 4);
        node(x, 7, 1, 1, 9);
        node(x, 9, 1, 1, 9);
        TileChoice y = Check.with("k = set(a) 0 a = #(-2147483648:-5) 1 b = #(2147483647) 2 a = b 3",
                "set v1(-2147483648) set v1(-5) set v1(-4) set v1(2147483647) set v1(v1)");
        node(y, 1, 1, 1, 1);
        node(y, 3, 1, 1, 1);
        node(y, 5, 1, -1, -1);
        node(y, 7, 1, 5, 3);
        node(y, 7, 2, 2, 2);
        node(y, 9, 1, -1, -1);
    }

    private static void ties() {
        TileChoice x = Check.with("k = ret(a) 1 k = ret(a) 1 k = ret(b) 0 a = var 2 a = var 1 a = var 1 b = var 2",
                "ret(v0)");
        node(x, 0, 0, 2, 0);
        node(x, 1, 1, 1, 4);
        node(x, 1, 2, 2, 6);
        // A chain that costs no less does not take the place of what is there.
        TileChoice y = Check.with("k = ret(a) 0 a = b 0 b = a 0 a = var 1 b = var 1", "ret(v0)");
        node(y, 1, 1, 1, 3);
        node(y, 1, 2, 1, 4);
    }

    private static void chains() {
        // Against their order, so that each pass brings one of them on; e gets a dear one first.
        TileChoice x = Check.with("k = ret(e) 0 e = d 1 d = c 1 c = b 1 b = a 1 a = var 1 e = a 900 e = e 0", "ret(v0)");
        node(x, 1, 1, 5, 1);
        node(x, 1, 2, 4, 2);
        node(x, 1, 5, 1, 5);
        node(x, 0, 0, 5, 0);
        // Of chains that come to the same the first that got there stays.
        TileChoice y = Check.with("k = ret(c) 0 c = b 1 b = a 1 c = a 2 a = var 1", "ret(v0)");
        node(y, 1, 1, 3, 3);
        node(y, 1, 2, 2, 2);
        // Chains at the first NODE, and of KINDS that nothing gives.
        TileChoice z = Check.with("k = j 5 j = ret(a) 1 a = b 1 b = a 1", "ret(v0)");
        node(z, 0, 0, -1, -1);
        node(z, 1, 2, -1, -1);
        TileChoice u = Check.with("k = j 5 j = ret(a) 1 a = var 1", "ret(v0)");
        node(u, 0, 0, 7, 0);
        node(u, 0, 1, 2, 1);
        node(u, 1, 0, -1, -1);
    }

    private static void trees() {
        TileChoice x = Check.with(MACHINE, "ret(v1) store(1, 2) set v2(add(1, 2)) ret(mul(1, 2))");
        Check.same("covered", 2, x.count(8));
        // ret(v1): 2; set: 1, add(reg, con): 2 and 1.
        Check.same("sum", 6, x.count(9));
        Check.same("no instructions", 0, x.count(12));
        Check.same("no need", 0, x.count(13));
        Check.refuses("list", IllegalStateException.class, () -> x.list());
        Check.refuses("run(true)", IllegalStateException.class, () -> x.run(true));
        // The GOAL is the first RULE's KIND alone.
        TileChoice y = Check.with("a = var 1 stm = ret(a) 1", "ret(v1)");
        Check.same("covered", 0, y.count(8));
        node(y, 0, 0, -1, -1);
        node(y, 0, 1, 2, 1);
        TileChoice z = Check.with("stm = store(a, b) 1 a = # 1 b = var 4 a = b 1 stm = store(b, a) 3", "store(v1, v2)");
        node(z, 0, 0, 10, 0);
        TileChoice w = Check.with("stm = set(a) 1000 a = neg(a) 1000 a = var 1000", "set v1(neg(neg(v2)))");
        Check.same("dear", 4000, w.count(9));
    }

    private static void wrongInputs() {
        TileChoice x = Check.with(MACHINE, "ret(v1)");
        int[][] wrong = {{-1, 0}, {2, 0}, {0, -1}, {0, 3}, {0, 4}, {Integer.MAX_VALUE, 0}, {0, Integer.MIN_VALUE}};
        for (int[] nk : wrong) {
            Check.refuses("cost " + nk[0] + " " + nk[1], IndexOutOfBoundsException.class, () -> x.cost(nk[0], nk[1]));
            Check.refuses("rule " + nk[0] + " " + nk[1], IndexOutOfBoundsException.class, () -> x.rule(nk[0], nk[1]));
        }
        Check.same("wrong program", 0, Check.program(x, "?"));
        Check.refuses("cost", IllegalStateException.class, () -> x.cost(0, 9));
        Check.refuses("rule", IllegalStateException.class, () -> x.rule(0, 9));
        TileChoice y = new TileChoice();
        Check.program(y, "ret(v1)");
        Check.refuses("cost", IllegalStateException.class, () -> y.cost(0, 0));
        Check.refuses("rule", IllegalStateException.class, () -> y.rule(0, 0));
        Check.same("sum", 0, y.count(9));
    }
}
