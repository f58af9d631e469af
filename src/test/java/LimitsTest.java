/** All promises at the limits that the document names: the greatest machines, programs and listings. */
public final class LimitsTest {
    private static final String EIGHT = "store(add(v1,2), mul(neg(3), v4))";

    public static void main(String[] args) {
        compare("most instructions", chainMachine(), EIGHT.repeat(50));
        compare("deepest instructions", chainMachine(), deepTrees());
        compare("most parts", partMachine(), EIGHT.repeat(50));
        compare("most rules", ruleMachine(), EIGHT.repeat(50));
        compare("most operands", "k = ret(k) 1 k = add(k, k) 0 k = # 1", "ret(" + sum(198) + ") ret(1)");
        compare("most first instructions", "k = ret(k) 0 k = add(k, k) 0 k = # 1", "ret(" + sum(198) + ") ret(1)");
        Check.finish();
    }

    private static String kind(int k) {
        return "kind" + (char) ('a' + k);
    }

    /** Twenty KINDS, each but the last a chain from the next: 20 INSTRUCTIONS for each NODE. */
    private static String chainMachine() {
        StringBuilder text = new StringBuilder();
        for (int k = 0; k < 19; k++) {
            text.append(kind(k) + " = " + kind(k + 1) + " 1000\n");
        }
        String[] forms = {"set(K)", "store(K, K)", "ret(K)", "var", "#", "add(K, K)", "mul(K, K)", "neg(K)"};
        for (String form : forms) {
            text.append(kind(19) + " = " + form.replace("K", kind(0)) + " 1000\n");
        }
        return text.toString();
    }

    private static String deepTrees() {
        StringBuilder text = new StringBuilder();
        for (int t = 0; t < 12; t++) {
            text.append("ret(" + "neg(".repeat(29) + t + ")".repeat(30));
        }
        return text.toString();
    }

    /** Sixty PARTS; those of the last RULE are open as deep as can be. */
    private static String partMachine() {
        return "k = store(add(k, #(2)), mul(neg(#), var)) 3 ".repeat(6) + "k = var 1 k = # 1 k = store(k, k) 5 "
                + "k = neg(neg(neg(neg(neg(neg(k)))))) 4 "
                + "k = " + "neg(".repeat(18) + "add(#, k)" + ")".repeat(18) + " 1 k = neg(k) 1 k = add(k, k) 2 k = mul(k, k) 1";
    }

    private static String ruleMachine() {
        StringBuilder text = new StringBuilder("a = store(b, b) 1 b = var 0 b = # 3 b = add(b, b) 1 b = mul(c, b) 2 "
                + "c = neg(b) 1 ");
        for (int r = 6; r < 60; r++) {
            text.append((char) ('b' + r % 19) + " = " + (char) ('b' + r * 7 % 19) + " " + r % 5 + " ");
        }
        return text.toString();
    }

    private static String sum(int leaves) {
        return leaves == 1 ? "5" : "add(" + sum(leaves / 2) + "," + sum(leaves - leaves / 2) + ")";
    }

    private static void compare(String what, String machine, String program) {
        Model model = new Model();
        model.readMachine(machine);
        model.readProgram(program);
        model.cover();
        model.findStates();
        model.choose();
        int[] given = new int[16];
        for (int v = 0; v < 16; v++) {
            given[v] = 3 * v + 1;
        }
        System.out.println(what + ": " + model.rules + " rules, " + model.flats.size() + " flat, " + model.nodes.size()
                + " nodes, " + model.order.size() + " instructions, " + model.listing.length() + " bytes");
        compareCounts(what, model, Check.with(machine, program, given));
        compareCovering(what, model, new Supply(machine, program, given, x -> x.count(5)));
        Check.same(what + " listing", model.listing.toString(),
                new Supply(machine, program, given, x -> x.list()).result());
        Check.same(what + " run(false)", model.runTrees(given), Check.with(machine, program, given).run(false));
        Check.same(what + " run(true)", model.runChosen(given), Check.with(machine, program, given).run(true));
        Supply ran = new Supply(machine, program, given, x -> x.run(true));
        for (int j = 0; j < 256; j++) {
            Check.same(what + " cell " + j, model.cells[j], ran.next().cell(j));
        }
    }

    private static void compareCounts(String what, Model model, TileChoice x) {
        Check.same(what + " rules", model.rules, x.count(0));
        Check.same(what + " kinds", model.kinds.size(), x.count(1));
        Check.same(what + " flat rules", model.flats.size(), x.count(2));
        Check.same(what + " trees", model.trees.size(), x.count(3));
        Check.same(what + " nodes", model.nodes.size(), x.count(4));
        Check.same(what + " covered", model.covered(), x.count(8));
        Check.same(what + " costs", model.coveredCost(), x.count(9));
        Check.same(what + " states", model.told ? model.states.size() : 0, x.count(10));
        Check.same(what + " looked up", model.told ? model.lookedUp : 0, x.count(11));
        Check.same(what + " even", model.told && model.even() ? 1 : 0, x.even() ? 1 : 0);
        Check.same(what + " instructions", model.order.size(), x.count(12));
        Check.same(what + " need", model.greatestNeed, x.count(13));
        Check.same(what + " list", model.listing.length(), x.list());
    }

    private static void compareCovering(String what, Model model, Supply supply) {
        for (int n = 0; n < model.nodes.size(); n++) {
            for (int k = 0; k < model.kinds.size(); k++) {
                Model.Way way = model.way(n, k);
                Check.same(what + " cost " + n + " " + k, way == null ? -1 : way.cost(), supply.next().cost(n, k));
                Check.same(what + " rule " + n + " " + k, way == null ? -1 : way.flat(), supply.next().rule(n, k));
            }
        }
    }
}
