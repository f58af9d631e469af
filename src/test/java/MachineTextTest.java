/** Promise 4, and 7 (0, 1, 2, 5): the texts of machines, right and wrong. */
public final class MachineTextTest {
    public static void main(String[] args) {
        signs();
        grammar();
        depth();
        reasons();
        limits();
        flatRules();
        replacing();
        Check.finish();
    }

    private static void right(String text) {
        text(text, -1, 0);
    }

    private static void wrong(String text, String before, int reason) {
        Check.same("(test itself) " + text, 0, text.startsWith(before) ? 0 : 1);
        text(text, before.length(), reason);
    }

    private static void text(String text, int place, int reason) {
        TileChoice x = new TileChoice();
        Check.same("machine " + text, place, Check.machine(x, text));
        Check.same("reason of " + text, reason, x.count(5));
        Check.same("there: " + text, place < 0 ? 1 : 0, x.count(0) > 0 ? 1 : 0);
        Check.same("tape behind " + text, 0, x.count(7));
    }

    private static void signs() {
        right("k=var 1");
        right("k=var1");
        right("\t\n\r k\t=\nvar\r1 \n");
        right(";remark\nk = var ; another; one = #\n 1;last");
        right("abcdefgh = var 0001");
        right("v = v 1 v = var 1");
        right("vv = var 1");
        right("k = #(-2147483648:2147483647) 0");
        right("k = #(-0) 00000000000000000000000000000000000001000");
        wrong("abcdefghi = var 1", "", 1);
        wrong("k = abcdefghi 1", "k = ", 1);
        wrong("v1 = var 1", "", 1);
        wrong("k1 = var 1", "k", 1);
        wrong("k = v1 1", "k = ", 1);
        wrong("k = #(2147483648) 1", "k = #(", 1);
        wrong("k = #(-2147483649) 1", "k = #(", 1);
        wrong("k = #(- 1) 1", "k = #(", 1);
        wrong("k = #(--1) 1", "k = #(", 1);
        wrong("k = var 99999999999999999999999999", "k = var ", 1);
        wrong("K = var 1", "", 1);
        wrong("k = var 1 \u00e9", "k = var 1 ", 1);
        wrong("k = var 1 \u0000", "k = var 1 ", 1);
        wrong("k = var 1 \u000b", "k = var 1 ", 1);
        wrong("k := var 1", "k ", 1);
        wrong("k = var 1 kindkindk = var 1", "k = var 1 ", 1);
    }

    private static void grammar() {
        wrong("", "", 1);
        wrong("  \n", "  \n", 1);
        wrong("; k = var 1", "; k = var 1", 1);
        wrong("k", "k", 1);
        wrong("k = ", "k = ", 1);
        wrong("k = var ", "k = var ", 1);
        wrong("add = var 1", "", 1);
        wrong("var = var 1", "", 1);
        wrong("set = var 1", "", 1);
        wrong("k = var 1 2", "k = var 1 ", 1);
        wrong("k = var 5-3", "k = var 5", 1);
        wrong("k = var(k) 1", "k = var", 1);
        wrong("k = 5 1", "k = ", 1);
        wrong("k = # 1 )", "k = # 1 ", 1);
        wrong("k = #() 1", "k = #(", 1);
        wrong("k = #(1,2) 1", "k = #(1", 1);
        wrong("k = #(1:) 1", "k = #(1:", 1);
        wrong("k = #(1:2:3) 1", "k = #(1:2", 1);
        wrong("k = #(k) 1", "k = #(", 1);
        wrong("k = add k, k) 1", "k = add ", 1);
        wrong("k = add(k) 1", "k = add(k", 1);
        wrong("k = add(k, k, k) 1", "k = add(k, k", 1);
        wrong("k = neg(k, k) 1", "k = neg(k", 1);
        wrong("k = neg() 1", "k = neg(", 1);
        wrong("k = load(k k) 1", "k = load(k ", 1);
        wrong("k = ret(k, k) 1", "k = ret(k", 1);
        wrong("k = set(k, k) 1", "k = set(k", 1);
        wrong("k = set v1 (k) 1", "k = set ", 1);
        wrong("k = store(k) 1", "k = store(k", 1);
        wrong("k = k(k) 1", "k = k", 1);
        right("k = store(set(k), ret(neg(var))) 1");
        for (String op : Model.TWO) {
            right("k = " + op + "(k, #) 1");
            wrong("k = " + op + "(k) 1", "k = " + op + "(k", 1);
        }
        for (String op : Model.ONE) {
            right("k = " + op + "(k) 1");
            wrong("k = " + op + "(k,k) 1", "k = " + op + "(k", 1);
        }
    }

    private static String nested(int opens, String inside) {
        return "neg(".repeat(opens) + inside + ")".repeat(opens);
    }

    private static void depth() {
        right("k = " + nested(19, "k") + " 1");
        right("k = " + nested(19, "#(1:2)") + " 1");
        wrong("k = " + nested(20, "k") + " 1", "k = " + "neg(".repeat(20), 1);
        wrong("k = " + nested(20, "#") + " 1", "k = " + "neg(".repeat(20), 1);
        wrong("k = " + nested(60, "k") + " 1", "k = " + "neg(".repeat(20), 1);
        right("k = add(" + nested(18, "k") + ", " + nested(18, "k") + ") 1");
    }

    private static void reasons() {
        wrong("k = var 1 k = q 1", "k = var 1 k = ", 2);
        wrong("k = add(k, q) 1", "k = add(k, ", 2);
        right("k = add(k, q) 1 q = var 1");
        wrong("k = var 1001", "k = var ", 3);
        wrong("k = var -1", "k = var ", 3);
        right("k = var 1000 k = var 0");
        wrong("k = #(5:4) 1", "k = #(5:", 3);
        right("k = #(5:5) 1");
        wrong("k = #(0:-1) 1", "k = #(0:", 3);
        // A sign that can't stand goes before all else, wherever it is; then the first that breaks a rule.
        wrong("k = q 1001 )", "k = q 1001 ", 1);
        wrong("k = q 1001", "k = ", 2);
        wrong("k = var 1001 k = q 1", "k = var ", 3);
        wrong("k = add(#(2:1), q) 1", "k = add(#(2:", 3);
        wrong("k = add(q, #(2:1)) 1", "k = add(", 2);
        wrong("k = q 1001 k =", "k = q 1001 k =", 1);
    }

    private static String kinds(int count) {
        StringBuilder text = new StringBuilder();
        for (int i = 0; i < count; i++) {
            text.append("k").append((char) ('a' + i / 26)).append((char) ('a' + i % 26)).append(" = var 1\n");
        }
        return text.toString();
    }

    private static void limits() {
        right(kinds(20));
        right(kinds(20) + kinds(20) + kinds(20));
        wrong(kinds(21), kinds(20), 4);
        wrong(kinds(60), kinds(20), 4);
        wrong(kinds(60) + "k", kinds(60), 1);
        wrong("k = var 1 ".repeat(61), "k = var 1 ".repeat(60), 1);
        wrong("k = var 1 ".repeat(60) + "(", "k = var 1 ".repeat(60), 1);
        right("k = var 1 ".repeat(60));
        // A KIND beyond the twentieth is known in a PAT before it: only its own word is one too many.
        wrong("kaa = kau 1 " + kinds(21), "kaa = kau 1 " + kinds(20), 4);
        wrong("kaa = zzz 1 " + kinds(21), "kaa = ", 2);
        // Seven PATS within one, one of them a KIND: six PARTS. Then six without a KIND.
        String withKind = "k = add(add(var, #), add(#, neg(k))) 1 ";
        String six = "k = add(add(var, #), add(#, var)) 1 ";
        right(six.repeat(10));
        wrong(six.repeat(10) + "k = neg(k) 1 k = neg( var) 1", six.repeat(10) + "k = neg(k) 1 k = neg( ", 4);
        right(withKind.repeat(10) + "k = neg(k) 1");
        right(withKind.repeat(10) + "k = #(1:2) 1");
        wrong(withKind.repeat(11), withKind.repeat(10) + "k = add(", 4);
        wrong(withKind.repeat(11) + "k", withKind.repeat(11) + "k", 1);
        // The PARTS are counted by their first signs.
        String deep = "k = neg(neg(neg(var))) 1 ";
        wrong(six.repeat(9) + deep.repeat(2) + deep, six.repeat(9) + deep.repeat(2) + "k = neg(", 4);
        String fiftyEight = six.repeat(9) + deep + "k = neg(var) 1 ";
        wrong(fiftyEight + deep, fiftyEight + "k = neg(neg(neg(", 4);
    }

    private static void flatRules() {
        TileChoice x = new TileChoice();
        Check.same("machine", -1, Check.machine(x,
                "stm = store(add(reg, #(1:9)), neg(var)) 2 reg = var 1 reg = reg 3 con = # 0"));
        Check.same("rules", 4, x.count(0));
        Check.same("kinds", 3, x.count(1));
        Check.same("flat rules", 8, x.count(2));
        Check.same("machine of equal parts", -1, Check.machine(x, "k = add(var, var) 1 k = add(var, var) 1"));
        Check.same("each has its own", 6, x.count(2));
    }

    private static void replacing() {
        TileChoice x = Check.with("k = ret(k) 1 k = var 1", "ret(v1)");
        Check.same("cost", 2, x.cost(0, 0));
        Check.same("wrong", 0, Check.machine(x, "("));
        Check.same("there is none", 0, x.count(0));
        Check.same("no kinds", 0, x.count(1));
        Check.same("no flat rules", 0, x.count(2));
        Check.same("the program is there", 2, x.count(4));
        Check.refuses("cost", IllegalStateException.class, () -> x.cost(0, 0));
        Check.refuses("list", IllegalStateException.class, () -> x.list());
        Check.same("reason", 1, x.count(5));
        Check.same("another", -1, Check.machine(x, "k = ret(k) 5 k = var 6"));
        Check.same("reason", 0, x.count(5));
        Check.same("all is told anew", 11, x.cost(0, 0));
        Check.same("wrong by a rule", 4, Check.machine(x, "k = q 1"));
        Check.same("reason", 2, x.count(5));
        Check.same("there is none", 0, x.count(0));
    }
}
