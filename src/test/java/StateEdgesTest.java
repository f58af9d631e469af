/** STATES, and promises 10 and 11: each edge, with what is just inside it and just outside. */
public final class StateEdgesTest {
    public static void main(String[] args) {
        numbered();
        flatRulesAndCosts();
        leastOfAll();
        thousand();
        asIfNone();
        byEnds();
        withTheStatesOfParts();
        lookedUp();
        atMostThreeHundred();
        even();
        anew();
        stateRefused();
        evenRefused();
        Check.finish();
    }

    private static void states(TileChoice x, int count, int again, int... due) {
        Check.same("states", count, x.count(10));
        Check.same("looked up and there", again, x.count(11));
        for (int n = 0; n < due.length; n++) {
            Check.same("state(" + n + ")", due[n], x.state(n));
        }
    }

    private static int isEven(TileChoice x) {
        return x.even() ? 1 : 0;
    }

    private static void numbered() {
        Check.sentence("STATES, numbered as they are found, from 0");
        TileChoice x = Check.with("s = ret(r) 1 r = # 1 r = var 1", "ret(v1) ret(5) ret(v2)");
        // v1 is 0, its ret 1; 5 is 2, and its ret is as the first one: its least cost is taken away.
        states(x, 3, 2, 1, 0, 1, 2, 1, 0);
        TileChoice y = Check.with("s = ret(r) 1 r = # 1", "ret(v1)");
        states(y, 1, 0, 0, 0);
    }

    private static void flatRulesAndCosts() {
        Check.sentence("for each KIND, PARTS too, its FLAT RULE, and its cost less the least one of all");
        // Costs that rise alike are the same STATE, costs that don't are others.
        TileChoice x = Check.with("s = ret(a) 0 a = # 0 b = # 0 a = neg(a) 1 b = neg(b) 1", "ret(neg(neg(neg(1))))");
        states(x, 3, 1, 2, 1, 1, 1, 0);
        TileChoice y = Check.with("s = ret(a) 0 a = # 0 b = # 0 a = neg(a) 1 b = neg(b) 2", "ret(neg(neg(neg(1))))");
        states(y, 5, 0, 4, 3, 2, 1, 0);
        // The same costs by other FLAT RULES are another STATE.
        TileChoice z = Check.with("s = set(a) 0 a = #(5) 1 a = #(6:7) 1", "set v1(5) set v1(6) set v1(7)");
        states(z, 3, 1, 1, 0, 1, 2, 1, 2);
        // PARTS, too: 5 can be one, 6 can't.
        TileChoice u = Check.with("s = set(a) 0 a = # 1 a = neg(#(5)) 1", "set v1(5) set v1(6)");
        Check.same("5 and 6", 1, u.state(1) != u.state(3) ? 1 : 0);
        TileChoice w = Check.with("s = set(a) 0 a = # 1 a = neg(#(5:6)) 1", "set v1(5) set v1(6)");
        Check.same("5 and 6", 1, w.state(1) == w.state(3) ? 1 : 0);
    }

    private static void leastOfAll() {
        Check.sentence("its cost less the least one of all");
        // The least may be that of a PART: then a stands at 999 above it, or is cut away at 1000.
        TileChoice x = Check.with("s = set(a) 0 a = # 999 a = neg(#(5)) 1", "set v1(5) set v1(6)");
        Check.same("both can be set", 1, x.state(0) == x.state(2) ? 1 : 0);
        TileChoice y = Check.with("s = set(a) 0 a = # 1000 a = neg(#(5)) 1", "set v1(5) set v1(6)");
        Check.same("5 is no a in its STATE", 1, y.state(0) != y.state(2) ? 1 : 0);
        // It is taken away at each NODE: costs that sum up to much more are no matter.
        TileChoice z = Check.with("s = ret(a) 1000 a = # 1000 a = neg(a) 1000",
                "ret(neg(neg(neg(neg(neg(1))))))");
        states(z, 3, 3, 2, 1, 1, 1, 1, 1, 0);
        Check.same("even", 1, isEven(z));
        Check.same("cost", 7000, z.cost(0, 0));
    }

    private static void thousand() {
        Check.sentence("(1000 and more: none, as if it had no FLAT RULE)");
        for (int above : new int[] {0, 1, 998, 999, 1000}) {
            // 1 can be b, 2 can't: a STATE of its own, but for 1000 more than a.
            TileChoice x = Check.with("s = set(a) 0 a = # 0 b = #(1) " + above, "set v1(1) set v1(2)");
            Check.same(above + " above: told apart", above < 1000 ? 1 : 0, x.state(1) != x.state(3) ? 1 : 0);
            Check.same(above + " above: states", above < 1000 ? 3 : 2, x.count(10));
            Check.same(above + " above: by covering it is there", above, x.cost(1, 2));
        }
        for (int above : new int[] {999, 1000, 1001, 1999}) {
            // neg takes c alone, a CHAIN above b: whether it can be anything tells whether c is in the STATE of 1.
            TileChoice x = Check.with("s = set(e) 0 a = # 0 b = #(1) 999 c = b " + (above - 999) + " e = neg(c) 0",
                    "set v1(neg(1)) set v1(neg(2))");
            Check.same(above + " by a chain", above, x.cost(2, 3));
            Check.same(above + " by a chain: told apart", above < 1000 ? 1 : 0, x.state(1) != x.state(4) ? 1 : 0);
        }
        // 1000 above the least, not above 0.
        TileChoice z = Check.with("s = set(a) 0 a = # 500 b = #(1) 1000", "set v1(1) set v1(2)");
        Check.same("500 above", 3, z.count(10));
    }

    private static void asIfNone() {
        Check.sentence("as if it had no FLAT RULE");
        // neg of 1 is looked up with the STATE of 2, and can't be b by its STATE, as it can by COVERING.
        TileChoice x = Check.with("s = set(a) 0 a = # 0 b = #(1) 1000 a = neg(a) 0 b = neg(b) 0",
                "set v1(neg(2)) set v1(neg(1))");
        states(x, 3, 2, 2, 1, 0, 2, 1, 0);
        Check.same("by covering", 1000, x.cost(4, 2));
        Check.same("even: what has none is no matter", 1, isEven(x));
        TileChoice y = Check.with("s = set(a) 0 a = # 0 b = #(1) 999 a = neg(a) 0 b = neg(b) 0",
                "set v1(neg(2)) set v1(neg(1))");
        states(y, 5, 0, 2, 1, 0, 2, 4, 3);
    }

    private static void byEnds() {
        Check.sentence("NODES of a PROGRAM, parts before, in order of their ends, have STATES");
        // Ends: v1, neg, 5, 6, add, store, 7, ret: each has its own STATE.
        TileChoice x = Check.with("s = store(r, r) 1 s = ret(r) 1 r = var 1 r = neg(r) 1 r = add(r, r) 1 r = #(5) 1 r = #(6) 1 "
                + "r = #(7) 1", "store(neg(v1), add(5, 6)) ret(7)");
        states(x, 8, 0, 5, 1, 0, 4, 2, 3, 7, 6);
        // What nothing covers has one, too, and it is one for all such NODES.
        TileChoice y = Check.with("s = ret(r) 1 r = var 1", "store(5, v1) ret(6) ret(v2)");
        states(y, 3, 1, 0, 0, 1, 0, 0, 2, 1);
    }

    private static void withTheStatesOfParts() {
        Check.sentence("that of a NODE's COVERING, reckoned with the costs in the STATES of its parts in place of theirs");
        // By its STATE v1 is no k, so neg can be r by the dearer way alone.
        TileChoice x = Check.with("s = ret(r) 0 r = neg(k) 0 r = neg(l) 1000 l = var 0 k = l 1000", "ret(neg(v1))");
        Check.same("by covering", 1, x.rule(1, 1));
        Check.same("not even", 0, isEven(x));
        TileChoice y = Check.with("s = ret(r) 0 r = neg(k) 0 r = neg(l) 1000 l = var 0 k = l 999", "ret(neg(v1))");
        Check.same("by covering", 1, y.rule(1, 1));
        Check.same("even", 1, isEven(y));
    }

    private static void lookedUp() {
        Check.sentence("of the same name and STATES (of numbers: the same number) it is looked up, not reckoned again");
        String machine = "s = set(r) 1 s = store(r, r) 1 s = ret(r) 1 r = var 1 r = # 1 r = sub(r, r) 1 r = add(r, r) 1 "
                + "r = neg(r) 1 r = not(r) 1";
        // Numbers: the same one, however it is written; not another, though it has the same STATE.
        again(machine, "set v1(7) set v1(7)", 2);
        again(machine, "set v1(7) set v1(8)", 1);
        again(machine, "set v1(7) set v1(007)", 2);
        again(machine, "set v1(0) set v1(-0)", 2);
        again(machine, "set v1(1) set v1(-1)", 1);
        // Variables have one name, and so has set, whatever its variable.
        again(machine, "set v1(v1) set v1(v1)", 2);
        again(machine, "set v1(v1) set v2(v3)", 2);
        again(machine, "set v1(v1) ret(v1)", 1);
        again(machine, "set v1(v1) set v1(1)", 0);
        // OPS: of the same name, and the STATES in the same order.
        again(machine, "ret(neg(neg(v1)))", 0);
        again(machine, "ret(neg(neg(neg(v1))))", 1);
        again(machine, "set v1(neg(v1)) ret(not(v1))", 1);
        again(machine, "set v1(sub(v1, 7)) ret(sub(7, v1))", 2);
        again(machine, "set v1(sub(v1, 7)) ret(sub(v1, 8))", 2);
        again(machine, "set v1(sub(v1, 7)) ret(add(v1, 7))", 2);
        again(machine, "store(v1, 7) store(7, v1)", 2);
        again(machine, "store(v1, 7) store(v2, 8)", 2);
        // What nothing covers is looked up, too.
        again("k = var 1", "ret(5) ret(5)", 2);
        again("k = var 1", "ret(5) ret(6)", 1);
        again("k = var 1", "ret(load(load(load(5))))", 2);
        // All but the first of its kind, of 400 NODES.
        again(machine, "store(sub(v1, v2), sub(neg(v3), v4))".repeat(50), 400 - 5);
    }

    private static void again(String machine, String program, int due) {
        TileChoice x = Check.with(machine, program);
        Check.same("looked up and there of " + program, due, x.count(11));
    }

    /** Each leaf and each neg above it has a STATE of its own, all ret have one. */
    private static String trees(int whole, int negs) {
        StringBuilder text = new StringBuilder();
        for (int t = 0; t <= whole; t++) {
            int count = t < whole ? 29 : negs;
            text.append("ret(" + "neg(".repeat(count) + t + ")".repeat(count) + ")");
        }
        return text.toString();
    }

    private static String stateMachine() {
        StringBuilder machine = new StringBuilder("s = ret(a) 0 a = # 0 a = neg(a) 0 b = neg(b) 1");
        for (int t = 0; t < 13; t++) {
            machine.append(" b = #(" + t + ") " + 30 * t);
        }
        return machine.toString();
    }

    private static void atMostThreeHundred() {
        Check.sentence("At most 300: more: no STATES are told.");
        TileChoice x = Check.with(stateMachine(), trees(9, 27));
        Check.same("299", 299, x.count(10));
        Check.same("299: none is twice", 0, x.count(11));
        Check.program(x, trees(9, 28));
        Check.same("300", 300, x.count(10));
        Check.same("300: even", 1, isEven(x));
        Check.same("300: the first leaf", 0, x.state(30));
        Check.same("300: the last neg", 299, x.state(9 * 31 + 1));
        Check.program(x, trees(9, 28) + "ret(0)");
        Check.same("300 and one that is there", 300, x.count(10));
        TileChoice y = Check.with(stateMachine(), trees(9, 28) + "set v1(0)");
        nothingTold(y, "301 at the very last");
        Check.program(y, trees(9, 29));
        nothingTold(y, "301");
        Check.program(y, trees(9, 28));
        Check.same("300 once more", 300, y.count(10));
        Check.same("even once more", 1, isEven(y));
        TileChoice z = Check.with(stateMachine(), trees(11, 20));
        nothingTold(z, "many more");
        Check.same("all are covered", 12, z.count(8));
        Check.same("and run", 0, z.run(true));
    }

    private static void nothingTold(TileChoice x, String what) {
        Check.same(what + ": states", 0, x.count(10));
        Check.same(what + ": looked up", 0, x.count(11));
        Check.same(what + ": even", 0, isEven(x));
        int nodes = x.count(4);
        for (int n : new int[] {0, 1, 30, nodes / 2, nodes - 1}) {
            Check.same(what + ": state(" + n + ")", -1, x.state(n));
        }
        Check.refuses(what + ": beyond", IndexOutOfBoundsException.class, () -> x.state(nodes));
        Check.refuses(what + ": below", IndexOutOfBoundsException.class, () -> x.state(-1));
    }

    private static void even() {
        Check.sentence("The PROGRAM is EVEN if all NODES have in their STATES, for each KIND that has one there, the FLAT RULE "
                + "that it has by COVERING.");
        String machine = "s = ret(r) 0 s = set(r) 0 r = add(k, a) 0 r = add(l, b) 1000 l = var 0 a = # 0 b = a 999 k = l ";
        String uneven = "ret(add(v1, 5))";
        Check.same("999", 1, isEven(Check.with(machine + 999, uneven)));
        Check.same("1000", 0, isEven(Check.with(machine + 1000, uneven)));
        // One NODE of many is enough, first or last.
        Check.same("the last", 0, isEven(Check.with(machine + 1000, "ret(v1) ret(5) " + uneven)));
        Check.same("the first", 0, isEven(Check.with(machine + 1000, uneven + " ret(v1) ret(5)")));
        Check.same("none", 1, isEven(Check.with(machine + 1000, "ret(v1) ret(5) ret(add(v1, v2))")));
        // A KIND that is no GOAL counts as well.
        String other = "s = var 0 r = neg(k) 0 r = neg(l) 1000 l = var 0 k = l 1000";
        Check.same("not the goal", 0, isEven(Check.with(other, "ret(neg(v1))")));
        // The first NODE as the first KIND alone; then a STATE with the first FLAT RULE, where COVERING has another.
        TileChoice first = Check.with("s = ret(k) 0 s = ret(l) 1000 l = var 0 k = l 1000", "ret(v1)");
        Check.same("by covering", 0, first.rule(0, 0));
        Check.same("the first NODE", 0, isEven(first));
        TileChoice second = Check.with("s = ret(l) 1000 s = ret(k) 0 m = var 0 l = var 500 k = var 1000", "ret(v1)");
        Check.same("by covering", 1, second.rule(0, 0));
        Check.same("the first FLAT RULE", 0, isEven(second));
        Check.same("999", 1, isEven(Check.with("s = ret(l) 1000 s = ret(k) 0 m = var 0 l = var 500 k = var 999", "ret(v1)")));
        // A KIND that the STATE has not is no matter, though COVERING has it.
        Check.same("cut away", 1, isEven(Check.with("s = ret(k) 0 l = var 0 k = l 1000", "ret(v1)")));
        Check.same("nothing at all", 1, isEven(Check.with("s = # 0", "ret(v1)")));
    }

    private static void anew() {
        Check.sentence("with both there, all is told anew");
        TileChoice x = Check.with("s = ret(a) 0 a = var 1 a = # 1", "ret(v1) ret(v2)");
        states(x, 2, 2, 1, 0, 1, 0);
        Check.program(x, "ret(5)");
        states(x, 2, 0, 1, 0);
        Check.program(x, "ret(5)");
        states(x, 2, 0, 1, 0);
        Check.machine(x, "s = var 1");
        states(x, 1, 0, 0, 0);
        Check.machine(x, "s = ret(s) 1 s = # 1");
        states(x, 2, 0, 1, 0);
    }

    private static void stateRefused() {
        Check.sentence("The STATE of NODE n, -1 if none are told. IllegalStateException likewise. IndexOutOfBoundsException: n.");
        TileChoice x = new TileChoice();
        Check.refuses("none", IllegalStateException.class, () -> x.state(-1));
        Check.machine(x, "s = ret(r) 1 r = var 1");
        Check.refuses("no program", IllegalStateException.class, () -> x.state(0));
        Check.refuses("no program", IllegalStateException.class, () -> x.state(2));
        Check.program(x, "ret(v1)");
        Check.same("state(0)", 1, x.state(0));
        Check.same("state(1)", 0, x.state(1));
        for (int n : new int[] {-1, 2, 400, Integer.MIN_VALUE, Integer.MAX_VALUE}) {
            Check.refuses("state(" + n + ")", IndexOutOfBoundsException.class, () -> x.state(n));
        }
        Check.machine(x, "?");
        Check.refuses("no machine", IllegalStateException.class, () -> x.state(0));
        Check.refuses("no machine", IllegalStateException.class, () -> x.state(-1));
        TileChoice y = Check.with("s = var 1", "store(add(1,2), mul(neg(3), 4))".repeat(50));
        Check.same("the 400th", 0, y.state(399));
        Check.refuses("the 401st", IndexOutOfBoundsException.class, () -> y.state(400));
    }

    private static void evenRefused() {
        Check.sentence("Whether the PROGRAM is EVEN (not, if no STATES are told). IllegalStateException likewise.");
        TileChoice x = new TileChoice();
        Check.refuses("none", IllegalStateException.class, () -> isEven(x));
        Check.machine(x, "s = ret(r) 1 r = var 1");
        Check.refuses("no program", IllegalStateException.class, () -> isEven(x));
        Check.program(x, "ret(v1)");
        Check.same("both", 1, isEven(x));
        Check.machine(x, "?");
        Check.refuses("no machine", IllegalStateException.class, () -> isEven(x));
        Check.machine(x, stateMachine());
        Check.program(x, trees(9, 28));
        Check.same("300 states", 1, isEven(x));
        Check.program(x, trees(9, 29));
        Check.same("301 states", 0, isEven(x));
        Check.program(x, "?");
        Check.refuses("no program", IllegalStateException.class, () -> isEven(x));
    }
}
