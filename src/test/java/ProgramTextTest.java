/** Promise 5, and 7 (3, 4, 5): the texts of programs, right and wrong. */
public final class ProgramTextTest {
    public static void main(String[] args) {
        signs();
        grammar();
        depth();
        limits();
        replacing();
        Check.finish();
    }

    private static void right(String text, int trees, int nodes) {
        TileChoice x = new TileChoice();
        Check.same("program " + text, -1, Check.program(x, text));
        Check.same("reason of " + text, 0, x.count(5));
        Check.same("trees of " + text, trees, x.count(3));
        Check.same("nodes of " + text, nodes, x.count(4));
    }

    private static void wrong(String text, String before, int reason) {
        Check.same("(test itself) " + text, 0, text.startsWith(before) ? 0 : 1);
        TileChoice x = new TileChoice();
        Check.same("program " + text, before.length(), Check.program(x, text));
        Check.same("reason of " + text, reason, x.count(5));
        Check.same("trees of " + text, 0, x.count(3));
        Check.same("nodes of " + text, 0, x.count(4));
        Check.refuses("run of " + text, IllegalStateException.class, () -> x.run(false));
    }

    private static void signs() {
        right("ret(v0)", 1, 2);
        right("set v15(v00)", 1, 2);
        right("set v09 (-2147483648)set v3(2147483647);x", 2, 4);
        right("ret(00000000000000000000000007)", 1, 2);
        wrong("ret(v16)", "ret(", 1);
        wrong("ret(v99)", "ret(", 1);
        wrong("ret(v007)", "ret(", 1);
        wrong("set v123(1)", "set ", 1);
        wrong("set v (1)", "set ", 1);
        wrong("setv1(1)", "", 1);
        wrong("ret(2147483648)", "ret(", 1);
        wrong("ret(-2147483649)", "ret(", 1);
        wrong("ret(-v1)", "ret(", 1);
        wrong("ret(v1 2)", "ret(v1 ", 1);
        wrong("ret(1-2)", "ret(1", 1);
        wrong("ret(1;)", "ret(1;)", 1);
        wrong("ret(1);\n\u00ff", "ret(1);\n", 1);
        wrong("ret(addaddadd(1,2))", "ret(", 1);
    }

    private static void grammar() {
        wrong("", "", 1);
        wrong(" ;\n ", " ;\n ", 1);
        wrong("ret", "ret", 1);
        wrong("ret(", "ret(", 1);
        wrong("ret(1", "ret(1", 1);
        wrong("ret 1", "ret ", 1);
        wrong("ret()", "ret(", 1);
        wrong("ret(1,2)", "ret(1", 1);
        wrong("ret v1 (1)", "ret ", 1);
        wrong("set(1)", "set", 1);
        wrong("set 1(1)", "set ", 1);
        wrong("set v1 1", "set v1 ", 1);
        wrong("set v1(1,2)", "set v1(1", 1);
        wrong("store(1)", "store(1", 1);
        wrong("store(1,2,3)", "store(1,2", 1);
        wrong("add(1,2)", "", 1);
        wrong("var", "", 1);
        wrong("ret(var)", "ret(", 1);
        wrong("ret(reg)", "ret(", 1);
        wrong("ret(#)", "ret(", 1);
        wrong("ret(ret(1))", "ret(", 1);
        wrong("ret(set v1(1))", "ret(", 1);
        wrong("ret((1))", "ret(", 1);
        wrong("ret(1))", "ret(1)", 1);
        wrong("1", "", 1);
        for (String op : Model.TWO) {
            right("ret(" + op + "(1, v2))", 1, 4);
            wrong("ret(" + op + "(1))", "ret(" + op + "(1", 1);
            wrong("ret(" + op + "(1,2,3))", "ret(" + op + "(1,2", 1);
        }
        for (String op : Model.ONE) {
            right("ret(" + op + "(1))", 1, 3);
            wrong("ret(" + op + "(1,2))", "ret(" + op + "(1", 1);
        }
        right("set v1(1) store(2, 3) ret(4) ret(5)", 4, 9);
    }

    private static void depth() {
        right("ret(" + "neg(".repeat(29) + "1" + ")".repeat(30), 1, 31);
        wrong("ret(" + "neg(".repeat(30) + "1" + ")".repeat(31), "ret(" + "neg(".repeat(30), 1);
        wrong("ret(" + "neg(".repeat(300) + "1" + ")".repeat(301), "ret(" + "neg(".repeat(30), 1);
        wrong("store(1, " + "neg(".repeat(30) + "v1" + ")".repeat(31), "store(1, " + "neg(".repeat(30), 1);
    }

    private static void limits() {
        right("ret(1)".repeat(60), 60, 120);
        wrong("ret(1)".repeat(60) + " ret(1)", "ret(1)".repeat(60) + " ", 1);
        wrong("ret(1)".repeat(60) + " 7", "ret(1)".repeat(60) + " ", 1);
        // 8 NODES a TREE.
        String eight = "store(add(1,2), mul(neg(3), 4))";
        right(eight.repeat(50), 50, 400);
        wrong(eight.repeat(50) + " ret(1)", eight.repeat(50) + " ", 4);
        wrong(eight.repeat(49) + "store(add(1,2), mul(neg(3), not(4)))",
                eight.repeat(49) + "store(add(1,2), mul(neg(3), not(", 4);
        // The variable of set is no NODE.
        wrong(eight.repeat(49) + "set v1(add(add(1, 2), add(3, 4))) set v1 (1)",
                eight.repeat(49) + "set v1(add(add(1, 2), add(3, 4))) ", 4);
        wrong(eight.repeat(60) + ")", eight.repeat(60), 1);
        wrong(eight.repeat(59) + "ret(", eight.repeat(59) + "ret(", 1);
        wrong(eight.repeat(60), eight.repeat(50), 4);
    }

    private static void replacing() {
        TileChoice x = Check.with("k = ret(k) 1 k = var 1 k = # 2", "ret(v1)");
        Check.same("another", -1, Check.program(x, "ret(7) ret(8)"));
        Check.same("trees", 2, x.count(3));
        Check.same("all is told anew", 6, x.count(9));
        Check.same("run", 7, x.run(true));
        Check.same("wrong", 4, Check.program(x, "ret("));
        Check.same("there is none", 0, x.count(3));
        Check.same("nor nodes", 0, x.count(4));
        Check.same("nor costs", 0, x.count(9));
        Check.same("the machine is there", 3, x.count(0));
        Check.refuses("run", IllegalStateException.class, () -> x.run(false));
        Check.refuses("state", IllegalStateException.class, () -> x.state(0));
        Check.refuses("variable", IllegalStateException.class, () -> x.variable(0));
        Check.same("again", -1, Check.program(x, "ret(v3)"));
        Check.same("cost", 2, x.count(9));
    }
}
