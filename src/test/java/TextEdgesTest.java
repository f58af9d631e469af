/** TEXTS, the grammar, the PLACE and the REASONS: each edge, with what is just inside it and just outside. */
public final class TextEdgesTest {
    private static final String EIGHT = "store(add(1,2), mul(neg(3), 4))";

    public static void main(String[] args) {
        ruleCount();
        patForms();
        treeCount();
        expressionForms();
        openPats();
        openExpressions();
        firstSignThatCannotStand();
        firstByteOfABadSign();
        endsTooEarly();
        tooMany();
        firstThatBreaksARule();
        unknownKind();
        costs();
        secondNumber();
        kinds();
        parts();
        nodes();
        nodeNumbers();
        kindNumbers();
        Check.finish();
    }

    private static void ruleCount() {
        Check.sentence("A MACHINE is {RULE}, 1 to 60 of: KIND = PAT number.");
        TextCheck.wrongMachine("", "", 1);
        TextCheck.wrongMachine(" \n;\n\t", "", 1);
        Check.same("one", 1, TextCheck.rightMachine("k = var 1").count(0));
        Check.same("59", 59, TextCheck.rightMachine("k = var 1 ".repeat(59)).count(0));
        Check.same("60", 60, TextCheck.rightMachine("k = var 1 ".repeat(60)).count(0));
        TextCheck.wrongMachine("k = var 1 ".repeat(60), "k = var 1", 1);
        TextCheck.wrongMachine("", "= var 1", 1);
        TextCheck.wrongMachine("k ", "var 1", 1);
        TextCheck.wrongMachine("k = ", "1", 1);
        TextCheck.wrongMachine("k = var ", "k = var 1", 1);
        TextCheck.wrongMachine("k = var 1 ", "1", 1);
        TextCheck.wrongMachine("k = ", "= var 1", 1);
    }

    private static void patForms() {
        Check.sentence("PAT: KIND | var | # [( number [: number] )] | OP ( PAT [, PAT] ) | set ( PAT ) | "
                + "store ( PAT , PAT ) | ret ( PAT ).");
        TextCheck.rightMachine("k = k 1 k = var 1 k = # 1 k = #(1) 1 k = #(1:2) 1 k = set(k) 1 k = store(k, k) 1 k = ret(k) 1");
        TextCheck.rightMachine("k = set(store(ret(k), add(set(#), neg(#(3))))) 1");
        TextCheck.wrongMachine("k = k", "(k) 1", 1);
        TextCheck.wrongMachine("k = # ", ": 2 1", 1);
        TextCheck.wrongMachine("k = #(", ") 1", 1);
        TextCheck.wrongMachine("k = #(", ":2) 1", 1);
        TextCheck.wrongMachine("k = #(1:", ") 1", 1);
        TextCheck.wrongMachine("k = #(1:2", ":3) 1", 1);
        TextCheck.wrongMachine("k = #(1", ",2) 1", 1);
        TextCheck.wrongMachine("k = #(1 ", "2) 1", 1);
        TextCheck.wrongMachine("k = #(", "k) 1", 1);
        TextCheck.wrongMachine("k = #(", "#) 1", 1);
        TextCheck.wrongMachine("k = set(k", ", k) 1", 1);
        TextCheck.wrongMachine("k = set(", ") 1", 1);
        TextCheck.wrongMachine("k = set ", "v1(k) 1", 1);
        TextCheck.wrongMachine("k = store(k", ") 1", 1);
        TextCheck.wrongMachine("k = store(k, k", ", k) 1", 1);
        TextCheck.wrongMachine("k = store(k, ", ") 1", 1);
        TextCheck.wrongMachine("k = ret(k", ", k) 1", 1);
        TextCheck.wrongMachine("k = ret(", ") 1", 1);
        TextCheck.wrongMachine("k = ", "(k) 1", 1);
        TextCheck.wrongMachine("k = add(", "1, k) 1", 1);
    }

    private static void treeCount() {
        Check.sentence("A PROGRAM is {TREE}, 1 to 60 of: set variable ( E ) | store ( E , E ) | ret ( E ).");
        TextCheck.wrongProgram("", "", 1);
        TextCheck.wrongProgram(" ; ret(1)", "", 1);
        Check.same("one", 1, TextCheck.rightProgram("ret(1)").count(3));
        Check.same("59", 59, TextCheck.rightProgram("ret(1)".repeat(59)).count(3));
        Check.same("60", 60, TextCheck.rightProgram("ret(1)".repeat(60)).count(3));
        TextCheck.wrongProgram("ret(1)".repeat(60), "ret(1)", 1);
        TextCheck.rightProgram("set v1(1) store(1, 2) ret(1) ret(2) set v2(3)");
        TextCheck.wrongProgram("set", "(1)", 1);
        TextCheck.wrongProgram("set ", "1(1)", 1);
        TextCheck.wrongProgram("set v1 ", "1", 1);
        TextCheck.wrongProgram("set v1 ", "v2(1)", 1);
        TextCheck.wrongProgram("set v1(1", ", 2)", 1);
        TextCheck.wrongProgram("store(1", ")", 1);
        TextCheck.wrongProgram("store(1, 2", ", 3)", 1);
        TextCheck.wrongProgram("store ", "v1(1, 2)", 1);
        TextCheck.wrongProgram("ret ", "v1", 1);
        TextCheck.wrongProgram("ret(1", ", 2)", 1);
        TextCheck.wrongProgram("ret(", ")", 1);
        TextCheck.wrongProgram("", "add(1, 2)", 1);
        TextCheck.wrongProgram("", "v1(1)", 1);
        TextCheck.wrongProgram("", "1", 1);
    }

    private static void expressionForms() {
        Check.sentence("E: number | variable | OP ( E [, E] ).");
        TextCheck.rightProgram("store(-1, add(v1, neg(2)))");
        TextCheck.wrongProgram("ret(", "#)", 1);
        TextCheck.wrongProgram("ret(", "(1))", 1);
        TextCheck.wrongProgram("ret(", "ret(1))", 1);
        TextCheck.wrongProgram("ret(", "set v1(1))", 1);
        TextCheck.wrongProgram("ret(neg(", "store(1, 2)))", 1);
        TextCheck.wrongProgram("ret(add ", "1, 2))", 1);
        TextCheck.wrongProgram("ret(v1", "(1))", 1);
        TextCheck.wrongProgram("ret(1", "(1))", 1);
    }

    private static String around(int opens, String inside) {
        return "neg(".repeat(opens) + inside + ")".repeat(opens);
    }

    private static void openPats() {
        Check.sentence("At most 20 PATS, 30 E are open at a time.");
        for (String inside : new String[] {"k", "var", "#", "#(1:2)"}) {
            TextCheck.rightMachine("k = " + around(18, inside) + " 1");
            TextCheck.rightMachine("k = " + around(19, inside) + " 1");
            TextCheck.wrongMachine("k = " + "neg(".repeat(20), inside + ")".repeat(20) + " 1", 1);
        }
        TextCheck.wrongMachine("k = " + "neg(".repeat(20), around(1, "k") + ")".repeat(20) + " 1", 1);
        TextCheck.wrongMachine("k = " + "neg(".repeat(20), "neg(".repeat(2000), 1);
        TextCheck.wrongMachine("k = " + "neg(".repeat(20), ")".repeat(20) + " 1", 1);
        TextCheck.wrongMachine("k = " + "neg(".repeat(19), ")".repeat(19) + " 1", 1);
        TextCheck.wrongMachine("k = " + "neg(".repeat(20), "", 1);
        // Those that are closed, of parts before and of RULES before, are open no more.
        TextCheck.rightMachine("k = add(" + around(18, "k") + "," + around(18, "k") + ") 1 k = " + around(19, "k") + " 1");
        TextCheck.wrongMachine("k = store(k, " + "neg(".repeat(19), "k" + ")".repeat(20) + " 1", 1);
        // It is a sign that can't stand, before all that breaks a RULE.
        TextCheck.wrongMachine("k = q 1001 k = " + "neg(".repeat(20), "k" + ")".repeat(20) + " 1", 1);
    }

    private static void openExpressions() {
        Check.sentence("At most 20 PATS, 30 E are open at a time.");
        for (String inside : new String[] {"1", "v1"}) {
            TextCheck.rightProgram("ret(" + around(28, inside) + ")");
            TextCheck.rightProgram("ret(" + around(29, inside) + ")");
            TextCheck.rightProgram("set v1(" + around(29, inside) + ")");
            TextCheck.wrongProgram("ret(" + "neg(".repeat(30), inside + ")".repeat(31), 1);
            TextCheck.wrongProgram("set v1(" + "neg(".repeat(30), inside + ")".repeat(31), 1);
        }
        TextCheck.wrongProgram("ret(" + "neg(".repeat(30), "neg(1)" + ")".repeat(31), 1);
        TextCheck.wrongProgram("ret(" + "neg(".repeat(30), "neg(".repeat(2000), 1);
        TextCheck.wrongProgram("ret(" + "neg(".repeat(30), ")".repeat(31), 1);
        TextCheck.wrongProgram("ret(" + "neg(".repeat(29), ")".repeat(30), 1);
        TextCheck.wrongProgram("ret(" + "neg(".repeat(30), "", 1);
        TextCheck.rightProgram("store(" + around(29, "1") + "," + around(29, "1") + ") ret(" + around(29, "1") + ")");
        TextCheck.wrongProgram("store(1, " + "neg(".repeat(30), "1" + ")".repeat(31), 1);
        Check.same("the deepest has its value", -5, TextCheck.valueOf(around(29, "5")));
        Check.same("its NODES", 31, TextCheck.rightProgram("ret(" + around(29, "5") + ")").count(4));
    }

    private static void firstSignThatCannotStand() {
        Check.sentence("A text is WRONG at the PLACE (from 0) of the first sign that can't stand there");
        TextCheck.wrongMachine("", "= =", 1);
        TextCheck.wrongMachine("k = ", ") ) 1", 1);
        TextCheck.wrongMachine("k = var 1 k = ", ") 1 k = ( 1", 1);
        TextCheck.wrongMachine(" ;(\n k\t", "k = var 1 abcdefghijkl", 1);
        TextCheck.wrongProgram("ret(", ", ; ,\n)", 1);
        TextCheck.wrongProgram("ret(1) ret(", ")", 1);
        TextCheck.wrongProgram("\n\n", "# ! ret(1)", 1);
    }

    private static void firstByteOfABadSign() {
        Check.sentence("a byte that begins no sign, a sign too long or great: its first byte");
        TextCheck.wrongMachine("k = var 1", "!", 1);
        TextCheck.wrongMachine("k = va", "R 1", 1);
        TextCheck.wrongMachine("k = ", "-k 1", 1);
        TextCheck.wrongMachine("k = ", "kindofreg 1", 1);
        TextCheck.wrongMachine("k = var ", "2147483648", 1);
        TextCheck.wrongMachine("k = var ", "-2147483649", 1);
        TextCheck.wrongProgram("set ", "v16(1)", 1);
        TextCheck.wrongProgram("ret(1) ", "returning(1)", 1);
        TextCheck.wrongProgram("ret(", "@1)", 1);
        // What can't stand before a bad sign is wrong first.
        TextCheck.wrongMachine("k = ", ") kindofreg", 1);
        // A bad sign where another is due, or where the text could end.
        TextCheck.wrongProgram("ret(1)", "\u00fe", 1);
        TextCheck.wrongProgram("ret(1", ", v16)", 1);
    }

    /** Each beginning of a right text that is not itself one. */
    private static void endsTooEarly() {
        Check.sentence("its length, if it ends too early");
        String machine = "k = add(k, #(1:22)) 10\nk = store(var, neg(k)) 5 ;r";
        int rules = 0;
        for (int length = 0; length <= machine.length(); length++) {
            TileChoice x = new TileChoice();
            String text = machine.substring(0, length);
            boolean whole = text.matches("(?s)k = add\\(k, #\\(1:22\\)\\) 10?\\s*(k = store\\(var, neg\\(k\\)\\) 5.*)?");
            Check.same("machine " + text, whole ? -1 : length, Check.machine(x, text));
            Check.same("reason of " + text, whole ? 0 : 1, x.count(5));
            rules += x.count(0);
        }
        Check.same("(test itself) rules of all", 3 + 2 * 4, rules);
        String program = "set v12(load(20)) store(v1, -3)\n";
        String[] partOfWord = {"s", "se", "l", "lo", "loa", "st", "sto", "stor", "v", "-"};
        for (int length = 0; length <= program.length(); length++) {
            TileChoice x = new TileChoice();
            String text = program.substring(0, length);
            int place = text.matches("(?s)set v12\\(load\\(20\\)\\)\\s*(store\\(v1, -3\\)\\s*)?") ? -1 : length;
            String lastSign = text.replaceAll("(?s).*[( )]", "");
            for (String part : partOfWord) {
                // A word, or a -, that can't stand: it is wrong where it begins.
                place = lastSign.equals(part) ? length - part.length() : place;
            }
            Check.same("program " + text, place, Check.program(x, text));
            Check.same("reason of " + text, place < 0 ? 0 : 1, x.count(5));
        }
        TextCheck.wrongMachine("k = var   ;\n \t", "", 1);
        TextCheck.wrongProgram("ret(1   ;)", "", 1);
    }

    private static void tooMany() {
        Check.sentence("the first sign of a RULE or TREE too many");
        String rules = "k = var 1\n".repeat(60);
        TextCheck.rightMachine(rules + " ;k = var 1");
        TextCheck.wrongMachine(rules + " ", "k = var 1", 1);
        TextCheck.wrongMachine(rules + " ", "k", 1);
        TextCheck.wrongMachine(rules + " ", "= (", 1);
        TextCheck.wrongMachine("k = q 1001\n".repeat(60), "k = var 1", 1);
        String trees = "set v1(2)\n".repeat(60);
        TextCheck.rightProgram(trees + " ;ret(1)");
        TextCheck.wrongProgram(trees + " ", "ret(1)", 1);
        TextCheck.wrongProgram(trees + " ", "ret", 1);
        TextCheck.wrongProgram(trees + " ", ") (", 1);
        // 60 TREES of eight NODES have too many NODES, but a TREE too many goes before that.
        TextCheck.wrongProgram(EIGHT.repeat(60), "ret(1)", 1);
    }

    private static void firstThatBreaksARule() {
        Check.sentence("if there is none, of the first sign that breaks a RULE (the least REASON)");
        TextCheck.wrongMachine("k = ", "q 1001 k = #(2:1) 1", 2);
        TextCheck.wrongMachine("k = var ", "1001 k = q 1", 3);
        TextCheck.wrongMachine("k = #(2:", "1) 1001 k = q 1", 3);
        TextCheck.wrongMachine("k = add(", "q, r) 1", 2);
        TextCheck.wrongMachine("k = q 1001 ", ")", 1);
        TextCheck.wrongMachine("k = #(2:1) -1 k =", "", 1);
        TextCheck.wrongMachine("k = #(2:1) -1 k = ", "abcdefghi 1", 1);
        TextCheck.wrongMachine(manyKinds(20), "x = q 1001", 4);
        TextCheck.wrongMachine(manyKinds(20) + "kaa = ", "q 1001 x = var 1", 2);
        TextCheck.wrongMachine(manyKinds(20) + "kaa = var ", "1001 x = q 1", 3);
    }

    private static void unknownKind() {
        Check.sentence("2: a KIND in a PAT that is on the left of no RULE");
        TextCheck.rightMachine("k = reg 1 reg = var 1");
        TextCheck.rightMachine("k = k 1");
        TextCheck.wrongMachine("k = ", "reg 1", 2);
        TextCheck.wrongMachine("k = var 1 k = ", "reg 1", 2);
        TextCheck.wrongMachine("k = store(neg(k), neg(", "reg)) 1", 2);
        TextCheck.wrongMachine("reg = add(reg, ", "re) 1 regs = var 1", 2);
        TextCheck.rightMachine("reg = add(reg, regs) 1 regs = var 1");
        // The last RULE's left side counts for the first RULE's PAT.
        String rules = "k = last 1 " + "k = var 1 ".repeat(58);
        TextCheck.rightMachine(rules + "last = var 1");
        TextCheck.wrongMachine("k = ", rules.substring(4) + "lost = var 1", 2);
    }

    private static void costs() {
        Check.sentence("3: a RULE's cost that is not 0 to 1000");
        for (String cost : new String[] {"0", "1", "999", "1000", "-0", "01000"}) {
            TextCheck.rightMachine("k = var " + cost);
            TextCheck.rightMachine("k = k 1 k = neg(var) " + cost + " k = # 7");
        }
        for (String cost : new String[] {"-1", "1001", "-1000", "2147483647", "-2147483648", "65536"}) {
            TextCheck.wrongMachine("k = var ", cost, 3);
            TextCheck.wrongMachine("k = k 1 k = neg(var) ", cost + " k = # 7", 3);
        }
        TextCheck.wrongMachine("k = #(1001:1002) ", "1001 k = #(-1) 1", 3);
    }

    private static void secondNumber() {
        Check.sentence("a second number of # below the first");
        int[] firsts = {Integer.MIN_VALUE + 1, -1, 0, 1, 5, Integer.MAX_VALUE};
        for (int first : firsts) {
            TextCheck.rightMachine("k = #(" + first + ":" + first + ") 1");
            TextCheck.wrongMachine("k = #(" + first + ":", first - 1 + ") 1", 3);
            TextCheck.rightMachine("k = #(" + (first - 1) + ":" + first + ") 1");
            TextCheck.wrongMachine("k = add(k, #(" + first + ":", first - 1 + ")) 1", 3);
        }
        TextCheck.rightMachine("k = #(-2147483648:-2147483648) 1");
        TextCheck.wrongMachine("k = #(2147483647:", "-2147483648) 1", 3);
        TextCheck.rightMachine("k = #(-2147483648:2147483647) 1");
    }

    private static String manyKinds(int count) {
        StringBuilder text = new StringBuilder();
        for (int i = 0; i < count; i++) {
            text.append("k").append((char) ('a' + i % 26)).append((char) ('a' + i / 26)).append(" = var 1\n");
        }
        return text.toString();
    }

    private static void kinds() {
        Check.sentence("4: the word of the 21st KIND on the left of a RULE");
        Check.same("19", 19, TextCheck.rightMachine(manyKinds(19)).count(1));
        Check.same("20", 20, TextCheck.rightMachine(manyKinds(20)).count(1));
        Check.same("20 of 60", 20, TextCheck.rightMachine(manyKinds(20).repeat(3)).count(1));
        TextCheck.wrongMachine(manyKinds(20), "x = var 1", 4);
        TextCheck.wrongMachine(manyKinds(20).repeat(2), "x = var 1 x = var 1 y = var 1", 4);
        TextCheck.wrongMachine(manyKinds(20), "x = var 1001", 4);
        TextCheck.wrongMachine(manyKinds(20), "x = q 1", 4);
        // In a PAT it is known, for it is on the left of a RULE; what is on none is no 21st KIND.
        TextCheck.wrongMachine("kaa = x 1 " + manyKinds(20), "x = var 1", 4);
        TextCheck.wrongMachine(manyKinds(20) + "kaa = ", "x 1", 2);
    }

    private static void parts() {
        Check.sentence("the first sign of the 61st PAT within a PAT that is no KIND");
        String six = "k = add(add(var, #), add(#(1), #(1:2))) 1\n";
        String kinds = "k = add(add(k, k), k) 1\n";
        Check.same("flat rules of 60", 70, TextCheck.rightMachine(six.repeat(10)).count(2));
        TextCheck.rightMachine(six.repeat(9) + "k = add(add(var, #), add(#(1), neg(k))) 1");
        for (String part : new String[] {"var", "#", "#(1)", "neg(k)", "add(k, k)", "set(k)", "store(k, k)", "ret(k)"}) {
            TextCheck.wrongMachine(six.repeat(10) + "k = neg( ", part + ") 1", 4);
            TextCheck.wrongMachine(six.repeat(10) + "k = add(k, ", part + ") 1", 4);
            // A PAT that is within none is no PART, and neither is a KIND.
            TextCheck.rightMachine(six.repeat(10) + "k = neg(k) 1 k = " + part + " 1");
        }
        TextCheck.rightMachine(kinds.repeat(60));
        // Counted by first signs: of neg(var) the 60th is neg, the 61st var.
        String fiftyNine = six.repeat(9) + "k = add(add(var, #), add(#, k)) 1\n";
        TextCheck.rightMachine(fiftyNine + "k = neg(var) 1");
        TextCheck.wrongMachine(fiftyNine + "k = neg(neg(", "var)) 1", 4);
        TextCheck.wrongMachine(fiftyNine + "k = add(var, ", "neg(#)) 1", 4);
        // A sign that can't stand goes before it, wherever it is.
        TextCheck.wrongMachine(six.repeat(11) + "k", "", 1);
    }

    private static void nodes() {
        Check.sentence("the first sign of the 401st NODE of a PROGRAM");
        String all = EIGHT.repeat(49);
        Check.same("399", 399, TextCheck.rightProgram(all + "store(add(1,2), mul(3, 4))").count(4));
        Check.same("400", 400, TextCheck.rightProgram(all + EIGHT).count(4));
        TextCheck.wrongProgram(all + "store(add(1,2), mul(neg(3), neg(", "4)))", 4);
        TextCheck.wrongProgram(all + "store(add(1,2), mul(neg(3), neg(", "neg(v4))))", 4);
        for (String tree : new String[] {"ret(1)", "set v1(2)", "store(1, 2)"}) {
            TextCheck.wrongProgram(EIGHT.repeat(50) + " ", tree, 4);
        }
        TextCheck.wrongProgram(EIGHT.repeat(50) + " ", EIGHT.repeat(10), 4);
        TextCheck.wrongProgram(all + "store(add(1,2), mul(3, 4)) set v1(", "1)", 4);
        // The variable behind set is no NODE.
        TextCheck.rightProgram(all + "set v1(add(add(1, 2), add(3, v4)))");
        TextCheck.wrongProgram(all + "set v1(add(add(1, 2), add(3, neg(", "v4))))", 4);
        // A sign that can't stand goes before it, wherever it is.
        TextCheck.wrongProgram(EIGHT.repeat(59) + "ret(1", "", 1);
        TextCheck.wrongProgram(EIGHT.repeat(59) + "ret(", "v16)", 1);
    }

    private static void nodeNumbers() {
        Check.sentence("NODES of a PROGRAM are its set, store, ret, OPS, variables and numbers in E, numbered from 0 by "
                + "their first signs.");
        TileChoice x = Check.with("top = set(v) 1 top = store(v, v) 2 top = ret(v) 3 "
                + "v = var 10 v = # 20 v = add(v, v) 30 v = neg(v) 40", "set v9(add(neg(v1), 5)) store(6, v2) ret(v3)");
        int[] top = {1 + 30 + 40 + 10 + 20, -1, -1, -1, -1, 2 + 20 + 10, -1, -1, 3 + 10, -1};
        int[] value = {-1, 30 + 40 + 10 + 20, 50, 10, 20, -1, 20, 10, -1, 10};
        Check.same("nodes", 10, x.count(4));
        for (int n = 0; n < 10; n++) {
            Check.same("cost(" + n + ", 0)", top[n], x.cost(n, 0));
            Check.same("cost(" + n + ", 1)", value[n], x.cost(n, 1));
        }
        Check.refuses("cost(10, 0)", IndexOutOfBoundsException.class, () -> x.cost(10, 0));
    }

    private static void kindNumbers() {
        Check.sentence("KINDS are numbered from 0 by the RULES that have them on the left first.");
        // Not by where they stand in a PAT: there c, b and d come before.
        TileChoice x = Check.with("a = ret(c) 1 b = c 2 a = set(d) 3 c = b 4 b = var 5 d = var 6 c = var 70", "ret(v1)");
        Check.same("kinds", 4, x.count(1));
        int[] cost = {-1, 5, 9, 6};
        for (int k = 0; k < 4; k++) {
            Check.same("cost(1, " + k + ")", cost[k], x.cost(1, k));
        }
        Check.refuses("cost(1, 4)", IndexOutOfBoundsException.class, () -> x.cost(1, 4));
    }
}
