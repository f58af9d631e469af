/** Promises 10 and 11, and 7 (10, 11): states, how often they are found again, and whether they agree. */
public final class StatesTest {
    private static final String UNEVEN = "stm = ret(reg) 0 reg = add(k, a) 0 reg = add(l, b) 1000 l = var 0 "
            + "a = # 0 b = a 999 k = l ";

    public static void main(String[] args) {
        numbering();
        lookedUp();
        cutAtThousand();
        limit();
        anew();
        wrongInputs();
        Check.finish();
    }

    private static void states(TileChoice x, int... due) {
        for (int n = 0; n < due.length; n++) {
            Check.same("state(" + n + ")", due[n], x.state(n));
        }
    }

    private static void numbering() {
        // By ends: v1 (0), 5 (1), add (2), neg (3), then store of 3 and 1; 5 and 6 differ in nothing but their number.
        TileChoice x = Check.with("stm = store(reg, reg) 1 reg = var 1 reg = # 1 reg = add(reg, reg) 1 reg = neg(reg) 1",
                "store(neg(add(v1, 5)), 6)");
        states(x, 4, 3, 2, 0, 1, 1);
        Check.same("states", 5, x.count(10));
        Check.same("looked up", 0, x.count(11));
        Check.same("even", 1, x.even() ? 1 : 0);
        // States differ by costs above the least alone, and PARTS are in them.
        TileChoice y = Check.with("stm = ret(a) 0 a = var 1 b = var 3 a = neg(a) 1 b = neg(b) 0 a = not(neg(var)) 9",
                "ret(neg(neg(neg(v1))))");
        // v1: its PART 0, a 1, b 3; neg: its PART 0, a 2, b 3; neg: no PART, a and b 3, so 0 and 0; neg: a 1, b 0.
        states(y, 4, 3, 2, 1, 0);
        Check.same("states", 5, y.count(10));
        Check.same("even", 1, y.even() ? 1 : 0);
        // What nothing covers has a state, too.
        TileChoice z = Check.with("stm = ret(a) 0 a = var 1", "ret(load(2)) ret(3) ret(v1)");
        states(z, 0, 0, 0, 0, 0, 2, 1);
        Check.same("states", 3, z.count(10));
        Check.same("even", 1, z.even() ? 1 : 0);
    }

    private static void lookedUp() {
        // All variables are of one name, and so is set of whatever variable; numbers are told apart.
        TileChoice x = Check.with("stm = set(reg) 1 reg = var 1 reg = # 1 reg = add(reg, reg) 1",
                "set v1(add(v2, v3)) set v4(add(v5, v5)) set v1(7) set v2(8) set v3(07) set v3(add(8, v1))");
        // There are v3; v5, v5, add, set; the set of 8; 07 and its set; 8, v1 and the last set. add(8, v1) is not.
        Check.same("looked up", 11, x.count(11));
        Check.same("states", 4, x.count(10));
    }

    private static void cutAtThousand() {
        TileChoice x = Check.with(UNEVEN + "1000", "ret(add(v1, 5))");
        Check.same("by covering", 1, x.rule(1, 1));
        Check.same("cost", 1000, x.cost(1, 1));
        Check.same("not even", 0, x.even() ? 1 : 0);
        TileChoice y = Check.with(UNEVEN + "999", "ret(add(v1, 5))");
        Check.same("even below 1000", 1, y.even() ? 1 : 0);
        // A KIND that a state has lost breaks nothing, if no other FLAT RULE comes in its place.
        TileChoice z = Check.with("stm = ret(k) 0 l = var 0 k = l 1000", "ret(v1)");
        Check.same("covered", 1, z.count(8));
        Check.same("even", 1, z.even() ? 1 : 0);
        Check.same("states", 2, z.count(10));
    }

    /** Each tree of 30 has a leaf and 29 NODES neg, all of different states; all ret have one state. */
    private static String trees(int whole, int negs) {
        StringBuilder text = new StringBuilder();
        for (int t = 0; t <= whole; t++) {
            int count = t < whole ? 29 : negs;
            text.append("ret(" + "neg(".repeat(count) + t + ")".repeat(count) + ")");
        }
        return text.toString();
    }

    private static void limit() {
        StringBuilder machine = new StringBuilder("stm = ret(a) 0 a = # 0 a = neg(a) 0 b = neg(b) 1");
        for (int t = 0; t < 13; t++) {
            machine.append(" b = #(" + t + ") " + 30 * t);
        }
        TileChoice x = Check.with(machine.toString(), trees(9, 28));
        Check.same("states", 300, x.count(10));
        Check.same("looked up", 0, x.count(11));
        Check.same("even", 1, x.even() ? 1 : 0);
        Check.same("the last leaf", 271, x.state(x.count(4) - 1));
        TileChoice y = Check.with(machine.toString(), trees(9, 29) + "ret(0)");
        Check.same("no states", 0, y.count(10));
        Check.same("none looked up", 0, y.count(11));
        Check.same("not even", 0, y.even() ? 1 : 0);
        int nodes = y.count(4);
        for (int n = 0; n < nodes; n += 2) {
            Check.same("no state(" + n + ")", -1, y.state(n));
        }
        Check.same("no last state", -1, y.state(nodes - 1));
        Check.refuses("state beyond", IndexOutOfBoundsException.class, () -> y.state(nodes));
        Check.same("all are covered", 11, y.count(8));
        Check.same("and chosen", 0, y.list());
        Check.same("told again with less", -1, Check.program(y, trees(1, 2) + "ret(0)"));
        Check.same("states", 34, y.count(10));
        Check.same("looked up", 1, y.count(11));
    }

    private static void anew() {
        TileChoice x = Check.with("stm = ret(a) 0 a = var 1 a = # 1", "ret(v1) ret(v2)");
        Check.same("states", 2, x.count(10));
        Check.same("looked up", 2, x.count(11));
        Check.program(x, "ret(5)");
        Check.same("states", 2, x.count(10));
        Check.same("looked up", 0, x.count(11));
        states(x, 1, 0);
        Check.machine(x, "stm = ret(a) 0 stm = # 1");
        Check.same("wrong machine", 0, x.count(10));
        Check.machine(x, "stm = ret(stm) 0 stm = # 1");
        states(x, 1, 0);
        Check.machine(x, "stm = var 1");
        states(x, 0, 0);
    }

    private static void wrongInputs() {
        TileChoice x = Check.with("stm = ret(a) 0 a = var 1", "ret(v1)");
        Check.refuses("state(-1)", IndexOutOfBoundsException.class, () -> x.state(-1));
        Check.refuses("state(2)", IndexOutOfBoundsException.class, () -> x.state(2));
        Check.machine(x, "");
        Check.refuses("state(0)", IllegalStateException.class, () -> x.state(0));
        Check.refuses("state(9)", IllegalStateException.class, () -> x.state(9));
        Check.refuses("even", IllegalStateException.class, () -> x.even() ? 1 : 0);
        Check.same("no states", 0, x.count(10));
        Check.same("none looked up", 0, x.count(11));
    }
}
