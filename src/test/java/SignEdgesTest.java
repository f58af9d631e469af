/** TEXTS, the signs: each sentence that names an edge, with what is just inside it and just outside. */
public final class SignEdgesTest {
    private static final String[] RESERVED = {"add", "sub", "mul", "and", "or", "xor", "shl", "shr", "lt", "neg", "not",
        "load", "set", "store", "ret", "var"};

    public static void main(String[] args) {
        asLongAsCanBe();
        blanks();
        remarks();
        words();
        variables();
        numbers();
        marks();
        ops();
        reservedWords();
        kindsOnlyInMachines();
        Check.finish();
    }

    private static boolean isBlank(int b) {
        return b == 9 || b == 10 || b == 13 || b == 32;
    }

    private static void asLongAsCanBe() {
        Check.sentence("SIGNS, each as long as can be");
        TextCheck.rightMachine("k=varx 1 varx=var 1");
        TextCheck.wrongMachine("k=", "varx 1", 2);
        TextCheck.rightMachine("k=var1");
        TextCheck.rightProgram("set v1(1)set v2(2)");
        TextCheck.wrongProgram("", "setv1(1)", 1);
        TextCheck.rightMachine("k=#(12)3");
        TextCheck.wrongMachine("k=#(1 ", "2)3", 1);
        TextCheck.wrongMachine("k=var 1", "-3", 1);
        TextCheck.rightProgram("ret(v12)");
        TextCheck.wrongProgram("ret(v1 ", "2)", 1);
        TextCheck.wrongProgram("ret(", "v 1)", 1);
        TextCheck.wrongProgram("ret(", "vv1)", 1);
        TextCheck.wrongProgram("ret(v1", "v1)", 1);
        TextCheck.rightMachine("v=v 1 vv=var 1 va=v 1");
        Check.same("12 and not 1", 12, TextCheck.valueOf("12"));
    }

    /** Each byte there is, between two signs where a KIND can grow and nothing but a blank or = can stand. */
    private static void blanks() {
        Check.sentence("with blanks (9, 10, 13, 32) and remarks (; up to a byte 10 or the end) between");
        for (int b = 0; b < 256; b++) {
            String text = "k" + (char) b + "= var 1";
            int place = isBlank(b) || b >= 'a' && b <= 'z' ? -1 : b == ';' ? text.length() : b == '=' ? 2 : 1;
            TileChoice x = new TileChoice();
            Check.same("machine with byte " + b, place, Check.machine(x, text));
            Check.same("reason with byte " + b, place < 0 ? 0 : 1, x.count(5));
            TileChoice y = new TileChoice();
            String tree = "ret" + (char) b + "(1)";
            int treePlace = isBlank(b) ? -1 : b == ';' ? tree.length() : b >= 'a' && b <= 'z' ? 0 : b == '(' ? 4 : 3;
            Check.same("program with byte " + b, treePlace, Check.program(y, tree));
        }
        TextCheck.rightMachine("\t\n\r k\t\t=\n\nvar\r\r1\t\n\r ");
        TextCheck.rightMachine("k=add(k,k)1k=#(1:2)2k=var 3");
        TextCheck.wrongMachine("k = va ", "r", 1);
        TextCheck.wrongMachine("k = va ", "r 1", 1);
    }

    private static void remarks() {
        Check.sentence("remarks (; up to a byte 10 or the end)");
        TextCheck.rightMachine("k = var;\n1");
        TextCheck.wrongMachine("k = var;\r1", "", 1);
        TextCheck.wrongMachine("k = var; 1", "", 1);
        TextCheck.rightMachine(";\nk = var 1");
        TextCheck.rightMachine("k = var 1;");
        TextCheck.rightMachine("k = var 1;\n");
        TextCheck.wrongMachine("k = var 1;\n", "(", 1);
        TextCheck.rightMachine("k;;\n= var 1; ; \n;\n");
        TextCheck.rightProgram("ret(1);\n;)");
        TextCheck.wrongProgram("ret(1;)\n", "", 1);
        TextCheck.wrongProgram(";ret(1)", "", 1);
        StringBuilder all = new StringBuilder("k = var ;");
        for (int b = 0; b < 256; b++) {
            all.append(b == 10 ? "" : String.valueOf((char) b));
        }
        TextCheck.rightMachine(all + "\n1");
        TextCheck.wrongMachine(all + "1", "", 1);
        // A remark parts two signs, as a blank does.
        TextCheck.wrongMachine("k = var 1;\n", "2", 1);
        TextCheck.wrongMachine("k;\n", "k = var 1", 1);
    }

    private static void words() {
        Check.sentence("words, a .. z, at most 8");
        TextCheck.rightMachine("a = var 1 z = var 1 abcdefgh = var 1 zzzzzzzz = abcdefgh 1");
        TextCheck.wrongMachine("", "abcdefghi = var 1", 1);
        TextCheck.wrongMachine("k = ", "abcdefghi 1", 1);
        TextCheck.wrongMachine("k = ", "abcdefgh 1", 2);
        TextCheck.wrongMachine("k = ", "a".repeat(200) + " 1", 1);
        TextCheck.wrongMachine("k = ", "addaddadd(k, k) 1", 1);
        TextCheck.wrongMachine("", "aaaaaaaaa = var 1", 1);
        TextCheck.wrongProgram("ret(", "nnnnnnneg(1))", 1);
        TextCheck.wrongProgram("", "retretret(1)", 1);
        for (char near : new char[] {'a' - 1, 'z' + 1, 'A', 'Z', 'a' + 128, '_', '0'}) {
            TextCheck.wrongMachine("", near + " = var 1", 1);
            TextCheck.wrongMachine("k", near + " = var 1", 1);
        }
        // All eight letters tell words apart, and how many they are.
        TileChoice x = TextCheck.rightMachine("abcdefgh = var 1 abcdefgi = var 1 abcdefg = var 1 bbcdefgh = var 1");
        Check.same("kinds", 4, x.count(1));
        TileChoice y = TextCheck.rightMachine("a = var 1 aa = var 1 aaaaaaaa = var 1 z = var 1 a = var 1");
        Check.same("kinds", 4, y.count(1));
    }

    private static void variables() {
        Check.sentence("variables, v and one or two digits, 0 to 15");
        for (int v = 0; v <= 99; v++) {
            String text = "set v" + v + "(7)";
            if (v > 15) {
                TextCheck.wrongProgram("set ", text.substring(4), 1);
                TextCheck.wrongProgram("ret(", "v" + v + ")", 1);
                continue;
            }
            TileChoice x = TextCheck.rightProgram(text + " set v" + (15 - v) + "(v" + v + ")");
            x.run(false);
            Check.same("variable " + v, 7, x.variable(v));
            Check.same("variable " + (15 - v), 7, x.variable(15 - v));
        }
        for (int v = 0; v <= 9; v++) {
            TileChoice x = TextCheck.rightProgram("set v0" + v + "(neg(v" + v + "))");
            x.begin(v, 6);
            x.run(false);
            Check.same("variable 0" + v, -6, x.variable(v));
        }
        TextCheck.wrongProgram("ret(", "v)", 1);
        TextCheck.wrongProgram("set ", "v (1)", 1);
        TextCheck.wrongProgram("ret(", "v-1)", 1);
        TextCheck.wrongProgram("ret(v1", "/)", 1);
        TextCheck.wrongProgram("ret(v1", ":)", 1);
        TextCheck.wrongProgram("ret(", "v000)", 1);
        TextCheck.wrongProgram("ret(", "v015)", 1);
        TextCheck.wrongProgram("set ", "v100(1)", 1);
        TextCheck.wrongProgram("set ", "v4294967296(1)", 1);
        TextCheck.wrongMachine("k = ", "v1 1", 1);
        TextCheck.wrongMachine("", "v1 = var 1", 1);
    }

    private static void numbers() {
        Check.sentence("numbers, digits, - right before them or not, that are ints");
        Check.same("greatest", Integer.MAX_VALUE, TextCheck.valueOf("2147483647"));
        Check.same("least", Integer.MIN_VALUE, TextCheck.valueOf("-2147483648"));
        Check.same("-0", 0, TextCheck.valueOf("-0"));
        Check.same("007", 7, TextCheck.valueOf("007"));
        Check.same("-010", -10, TextCheck.valueOf("-010"));
        Check.same("0123456789", 123456789, TextCheck.valueOf("0123456789"));
        Check.same("zeros before", Integer.MAX_VALUE, TextCheck.valueOf("0".repeat(40) + "2147483647"));
        String[] tooGreat = {"2147483648", "-2147483649", "4294967296", "4294967297", "-4294967296",
            "9223372036854775808", "18446744073709551616", "18446744073709551623", "9".repeat(300), "-" + "9".repeat(300)};
        for (String number : tooGreat) {
            TextCheck.wrongProgram("ret(", number + ")", 1);
            TextCheck.wrongMachine("k = var ", number, 1);
            TextCheck.wrongMachine("k = #(", number + ") 1", 1);
            TextCheck.wrongMachine("k = #(-2147483648:", number + ") 1", 1);
        }
        TextCheck.rightMachine("k = #(-2147483648:2147483647) 1");
        for (String none : new String[] {"- 1)", "-)", "--1)", "+1)", "-;\n1)", "-v1)", "-neg(1))", ".5)"}) {
            TextCheck.wrongProgram("ret(", none, 1);
        }
        TextCheck.wrongProgram("ret(1", "/)", 1);
        TextCheck.wrongProgram("ret(1", ":)", 1);
        TextCheck.wrongProgram("ret(1", "e5)", 1);
    }

    /** Each byte there is, behind a text that is whole. */
    private static void marks() {
        Check.sentence("( ) , = # :");
        for (int b = 0; b < 256; b++) {
            boolean free = isBlank(b) || b == ';';
            boolean digit = b >= '0' && b <= '9';
            boolean letter = b >= 'a' && b <= 'z';
            TileChoice x = new TileChoice();
            Check.same("byte " + b + " behind a rule", free || digit ? -1 : letter ? 10 : 9,
                    Check.machine(x, "k = var 1" + (char) b));
            TileChoice y = new TileChoice();
            Check.same("byte " + b + " behind a tree", free ? -1 : 6, Check.program(y, "ret(1)" + (char) b));
            TileChoice z = new TileChoice();
            Check.same("byte " + b + " as a pat", b == '#' || b == 'k' ? -1 : b == ';' ? 7 : isBlank(b) ? 6 : 4,
                    Check.machine(z, "k = " + (char) b + " 1"));
            Check.same("reason of it", b == '#' || b == 'k' ? 0 : letter ? 2 : 1, z.count(5));
        }
    }

    private static void ops() {
        Check.sentence("OPS are add sub mul and or xor shl shr lt (with two parts), neg not load (with one)");
        for (String op : Model.TWO) {
            TextCheck.rightMachine("k = " + op + "(k, k) 1");
            TextCheck.wrongMachine("k = " + op + "(k", ") 1", 1);
            TextCheck.wrongMachine("k = " + op + "(k, k", ", k) 1", 1);
            TextCheck.rightProgram("ret(" + op + "(1, 2))");
            TextCheck.wrongProgram("ret(" + op + "(1", "))", 1);
            TextCheck.wrongProgram("ret(" + op + "(1, 2", ", 3))", 1);
        }
        for (String op : Model.ONE) {
            TextCheck.rightMachine("k = " + op + "(k) 1");
            TextCheck.wrongMachine("k = " + op + "(", ") 1", 1);
            TextCheck.wrongMachine("k = " + op + "(k", ", k) 1", 1);
            TextCheck.rightProgram("ret(" + op + "(1))");
            TextCheck.wrongProgram("ret(" + op + "(", "))", 1);
            TextCheck.wrongProgram("ret(" + op + "(1", ", 2))", 1);
        }
    }

    private static void reservedWords() {
        Check.sentence("set store ret var are words, too; the others are KINDS");
        for (String word : RESERVED) {
            TextCheck.wrongMachine("", word + " = var 1", 1);
            TextCheck.rightMachine(word + "x = var 1");
            TextCheck.rightMachine("q" + word + " = var 1");
            TextCheck.rightMachine(word.substring(0, 1) + " = var 1");
            if (!word.equals("var")) {
                TextCheck.wrongMachine("k = " + word + " ", "1", 1);
                TextCheck.wrongMachine("k = add(" + word, ", k) 1", 1);
            }
        }
        TextCheck.wrongMachine("k = var", "(k) 1", 1);
    }

    private static void kindsOnlyInMachines() {
        Check.sentence("the others are KINDS (only in a MACHINE)");
        TextCheck.rightMachine("reg = neg(reg) 1");
        TextCheck.wrongProgram("ret(", "reg)", 1);
        TextCheck.wrongProgram("ret(neg(", "reg))", 1);
        TextCheck.wrongProgram("", "reg(1)", 1);
        TextCheck.wrongProgram("ret(1) ", "reg = var 1", 1);
        TextCheck.wrongProgram("set ", "reg(1)", 1);
        TextCheck.wrongProgram("ret(", "var)", 1);
        TextCheck.wrongProgram("", "var(1)", 1);
    }
}
