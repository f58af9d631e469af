import java.util.HashMap;
import java.util.Map;

/** Promises 4 to 16 on many made texts, each answer compared with that of a second, plainer program. */
public final class ModelTest {
    public static void main(String[] args) {
        int fullyCovered = 0;
        int notEven = 0;
        for (int seed = 0; seed < 3000 && Check.wrongSoFar() < 20; seed++) {
            Texts texts = new Texts(seed);
            String machine = texts.machine();
            String program = texts.program();
            Model model = new Model();
            try {
                model.readMachine(machine);
                model.readProgram(program);
            } catch (Model.Wrong tooMuch) {
                // Made without a look at the limits; what is wrong is compared further down.
                continue;
            }
            if (!Supply.suffices(machine, program)) {
                continue;
            }
            int[] given = new int[16];
            for (int v = 0; v < 16; v++) {
                given[v] = texts.below(3) == 0 ? texts.anyInt() : texts.below(10);
            }
            compareAll("seed " + seed + " ", model, machine, program, given);
            fullyCovered += model.covered() == model.trees.size() ? 1 : 0;
            notEven += model.even() ? 0 : 1;
        }
        Check.same("enough programs are covered whole", 1, fullyCovered > 1000 ? 1 : 0);
        Check.same("enough programs are not even", 1, notEven > 0 ? 1 : 0);
        System.out.println(fullyCovered + " covered whole, " + notEven + " not even");
        for (int seed = 0; seed < 30000 && Check.wrongSoFar() < 20; seed++) {
            compareDamaged(seed);
        }
        Check.finish();
    }

    private static void compareAll(String seed, Model model, String machine, String program, int[] given) {
        model.cover();
        model.findStates();
        compareCovering(seed, model, new Supply(machine, program, given, x -> x.count(5)));
        Check.same(seed + "run(false)", model.runTrees(given), Check.with(machine, program, given).run(false));
        compareRun(seed + "behind run(false) ", model, new Supply(machine, program, given, x -> x.run(false)));
        TileChoice x = Check.with(machine, program, given);
        if (model.covered() < model.trees.size()) {
            Check.same(seed + "instructions", 0, x.count(12));
            Check.same(seed + "need", 0, x.count(13));
            Check.refuses(seed + "list", IllegalStateException.class, () -> x.list());
            Check.refuses(seed + "run(true)", IllegalStateException.class, () -> x.run(true));
            return;
        }
        model.choose();
        Check.same(seed + "instructions", model.order.size(), x.count(12));
        Check.same(seed + "need", model.greatestNeed, x.count(13));
        Check.same(seed + "list", model.listing.length(), x.list());
        Check.same(seed + "listing", model.listing.toString(), new Supply(machine, program, given, y -> y.list()).result());
        Check.same(seed + "run(true)", model.runChosen(given), x.run(true));
        compareRun(seed + "behind run(true) ", model, new Supply(machine, program, given, y -> y.run(true)));
    }

    private static void compareCovering(String seed, Model model, Supply supply) {
        Check.same(seed + "rules", model.rules, supply.next().count(0));
        Check.same(seed + "kinds", model.kinds.size(), supply.next().count(1));
        Check.same(seed + "flat rules", model.flats.size(), supply.next().count(2));
        Check.same(seed + "trees", model.trees.size(), supply.next().count(3));
        Check.same(seed + "nodes", model.nodes.size(), supply.next().count(4));
        Check.same(seed + "covered", model.covered(), supply.next().count(8));
        Check.same(seed + "cost of trees", model.coveredCost(), supply.next().count(9));
        Check.same(seed + "states", model.told ? model.states.size() : 0, supply.next().count(10));
        Check.same(seed + "looked up", model.told ? model.lookedUp : 0, supply.next().count(11));
        Check.same(seed + "even", model.told && model.even() ? 1 : 0, supply.next().even() ? 1 : 0);
        Map<Model.Tree, Map<String, Integer>> known = new HashMap<>();
        for (int n = 0; n < model.nodes.size(); n++) {
            for (int k = 0; k < model.kinds.size(); k++) {
                Model.Way way = model.way(n, k);
                int cost = supply.next().cost(n, k);
                Check.same(seed + "cost " + n + " " + k, way == null ? -1 : way.cost(), cost);
                Check.same(seed + "rule " + n + " " + k, way == null ? -1 : way.flat(), supply.next().rule(n, k));
                int tiles = model.tileCost(model.nodes.get(n), model.kinds.get(k), known);
                Check.same(seed + "cost by tiles " + n + " " + k, tiles, cost);
            }
            int state = model.told ? model.stateOf.get(model.nodes.get(n)) : -1;
            Check.same(seed + "state " + n, state, supply.next().state(n));
        }
    }

    private static void compareRun(String seed, Model model, Supply supply) {
        for (int v = 0; v < 16; v++) {
            Check.same(seed + "variable " + v, model.variables[v], supply.next().variable(v));
        }
        for (int j = 0; j < 256; j++) {
            Check.same(seed + "cell " + j, model.cells[j], supply.next().cell(j));
        }
    }

    private static void compareDamaged(int seed) {
        Texts texts = new Texts(1_000_000 + seed);
        boolean asMachine = texts.below(2) == 0;
        String text = asMachine ? texts.machine() : texts.program();
        text = texts.below(20) == 0 ? text : texts.damaged(text);
        int place = -1;
        int reason = 0;
        try {
            if (asMachine) {
                new Model().readMachine(text);
            } else {
                new Model().readProgram(text);
            }
        } catch (Model.Wrong w) {
            place = w.place;
            reason = w.reason;
        }
        TileChoice x = new TileChoice();
        int got = asMachine ? Check.machine(x, text) : Check.program(x, text);
        Check.same("damaged seed " + seed + " place in\n" + text + "\n", place, got);
        Check.same("damaged seed " + seed + " reason", reason, x.count(5));
        Check.same("damaged seed " + seed + " there", place < 0 ? 1 : 0, x.count(asMachine ? 0 : 3) > 0 ? 1 : 0);
    }
}
