import java.util.ArrayList;
import java.util.Arrays;
import java.util.HashMap;
import java.util.List;
import java.util.Map;

/** The document's first words: least cost, fewest registers, runs that agree; and an object's 512 calls. */
public final class WholeTest {
    private static final int MOST_INSTRUCTIONS = 14;
    private static final int ROUNDS = 3000;

    public static void main(String[] args) {
        leastCost();
        fewestRegisters();
        runsAgree();
        lastCall();
        dearCalls();
        Check.finish();
    }

    /** The costs of all ways to lay whole tiles over a small tree, without FLAT RULES and without sums for each node. */
    private static void leastCost() {
        Check.sentence("each tree is covered at the least cost");
        int covered = 0;
        for (int seed = 0; seed < ROUNDS && Check.wrongSoFar() < 20; seed++) {
            Texts texts = new Texts(31_000_000L + seed);
            String machine = texts.machine();
            String program = smallTree(texts, 6);
            Model model = new Model();
            try {
                model.readMachine(machine);
            } catch (Model.Wrong tooMuch) {
                // Made without a look at the limits.
                continue;
            }
            model.readProgram(program);
            int due = model.tileCost(model.trees.get(0), model.kinds.get(0), new HashMap<>());
            TileChoice x = Check.with(machine, program);
            Check.same("seed " + seed + " cost of " + program, due, x.cost(0, 0));
            Check.same("seed " + seed + " sum", Math.max(due, 0), x.count(9));
            covered += due < 0 ? 0 : 1;
        }
        Check.same("enough trees are covered", 1, covered > ROUNDS / 2 ? 1 : 0);
    }

    private static String smallTree(Texts texts, int leaves) {
        switch (texts.below(3)) {
            case 0: return "set v3(" + expression(texts, leaves) + ")";
            case 1: return "store(" + expression(texts, leaves / 2) + "," + expression(texts, leaves - leaves / 2) + ")";
            default: return "ret(" + expression(texts, leaves) + ")";
        }
    }

    private static String expression(Texts texts, int leaves) {
        if (leaves <= 1) {
            String leaf = texts.below(2) == 0 ? "v" + texts.below(16) : "" + texts.below(9);
            return texts.below(3) == 0 ? "neg(" + leaf + ")" : leaf;
        }
        int left = 1 + texts.below(leaves - 1);
        String op = Model.TWO.get(texts.below(Model.TWO.size()));
        String both = op + "(" + expression(texts, left) + "," + expression(texts, leaves - left) + ")";
        return texts.below(4) == 0 ? "load(" + both + ")" : both;
    }

    private static String pricedMachine(Texts texts) {
        StringBuilder text = new StringBuilder("s = set(r) P s = store(r, r) P s = ret(r) P r = var P r = # P ");
        for (String op : Model.TWO) {
            text.append("r = " + op + "(r, r) P r = " + op + "(" + op + "(r, r), r) P ");
        }
        for (String op : Model.ONE) {
            text.append("r = " + op + "(r) P ");
        }
        for (int at = text.indexOf("P"); at >= 0; at = text.indexOf("P")) {
            text.replace(at, at + 1, "" + Math.max(0, texts.below(4) - 1));
        }
        return text.toString();
    }

    /** No order of the same INSTRUCTIONS, of all there are, needs fewer registers than the LISTING uses. */
    private static void fewestRegisters() {
        Check.sentence("what was chosen is put in the order that needs the fewest registers");
        int compared = 0;
        int greatest = 0;
        for (int seed = 0; seed < ROUNDS && Check.wrongSoFar() < 20; seed++) {
            Texts texts = new Texts(32_000_000L + seed);
            String program = smallTree(texts, 2 + texts.below(9));
            TileChoice x = Check.with(pricedMachine(texts), program);
            String listing = Check.listing(x);
            List<int[]> operands = new ArrayList<>();
            int used = readListing(listing, operands);
            if (operands.size() > MOST_INSTRUCTIONS) {
                continue;
            }
            int fewest = fewest(operands);
            Check.same("seed " + seed + " registers of " + program + "\n" + listing, fewest, used);
            if (firstInstructions(operands) == 1) {
                Check.same("seed " + seed + " need of " + program, fewest, x.count(13));
            }
            compared++;
            greatest = Math.max(greatest, fewest);
        }
        Check.same("enough orders are compared", 1, compared > ROUNDS / 2 && greatest > 3 ? 1 : 0);
    }

    /** Which earlier lines each line's registers come from; the answer is how many registers there are. */
    private static int readListing(String listing, List<int[]> operands) {
        int[] holder = new int[1000];
        int used = 0;
        for (String line : listing.isEmpty() ? new String[0] : listing.split("\n")) {
            String[] words = line.split(" ");
            int[] from = new int[words.length - 3];
            for (int i = 0; i < from.length; i++) {
                from[i] = holder[Integer.parseInt(words[3 + i].substring(1))];
            }
            int register = Integer.parseInt(words[0].substring(1));
            holder[register] = operands.size();
            used = Math.max(used, register + 1);
            operands.add(from);
        }
        return used;
    }

    private static int firstInstructions(List<int[]> operands) {
        int first = operands.size();
        for (int[] of : operands) {
            first -= of.length;
        }
        return first;
    }

    /** Over all sets of INSTRUCTIONS that can be done first: the fewest registers that bring one there. */
    private static int fewest(List<int[]> operands) {
        int size = operands.size();
        int[] below = new int[size];
        for (int i = 0; i < size; i++) {
            for (int operand : operands.get(i)) {
                below[i] |= 1 << operand;
            }
        }
        int[] best = new int[1 << size];
        Arrays.fill(best, Integer.MAX_VALUE);
        best[0] = 0;
        for (int done = 0; done < best.length; done++) {
            for (int i = 0; i < size && best[done] < Integer.MAX_VALUE; i++) {
                if ((done >> i & 1) == 0 && (below[i] & ~done) == 0) {
                    int then = done | 1 << i;
                    best[then] = Math.min(best[then], Math.max(best[done], held(then, below)));
                }
            }
        }
        return best[best.length - 1];
    }

    private static int held(int done, int[] below) {
        int held = done;
        for (int i = 0; i < below.length; i++) {
            held &= (done >> i & 1) == 1 ? ~below[i] : -1;
        }
        return Integer.bitCount(held);
    }

    private static void runsAgree() {
        Check.sentence("RUN of the PROGRAM, by its TREES or by the INSTRUCTIONS chosen: the answer.");
        Map<Integer, Integer> answers = new HashMap<>();
        for (int seed = 0; seed < ROUNDS && Check.wrongSoFar() < 20; seed++) {
            Texts texts = new Texts(33_000_000L + seed);
            String program = "";
            for (int t = 0; t < 6; t++) {
                program += smallTree(texts, 1 + texts.below(7));
            }
            TileChoice x = Check.with(pricedMachine(texts), program);
            for (int v = 0; v < 4; v++) {
                x.begin(v, texts.below(600));
            }
            int byTrees = x.run(false);
            String behind = behind(x);
            Check.same("seed " + seed + " run(true)", byTrees, x.run(true));
            Check.same("seed " + seed + " behind run(true)", behind, behind(x));
            answers.merge(byTrees, 1, Integer::sum);
        }
        Check.same("there are many answers", 1, answers.size() > 100 ? 1 : 0);
    }

    private static String behind(TileChoice x) {
        StringBuilder text = new StringBuilder();
        for (int v = 0; v < 16; v++) {
            text.append(" v").append(x.variable(v));
        }
        for (int j = 0; j < 256; j += 3) {
            text.append(" c").append(x.cell(j));
        }
        return text.toString();
    }

    /** Whatever 511 calls were, the 512th answers as any other. */
    private static void lastCall() {
        Check.sentence("An object is used for at most 512 calls after it has been made");
        String machine = "s = ret(r) 1 r = # 1";
        String program = "ret(7)";
        int told = Supply.callsToFeed(machine) + 1 + Supply.callsToFeed(program) + 1 + 1;
        for (int last = 0; last < 6; last++) {
            TileChoice x = Check.with(machine, program);
            x.list();
            for (int call = told; call < Supply.CALLS - 1; call++) {
                Check.same("run", 7, x.run(call % 2 == 0));
            }
            switch (last) {
                case 0: Check.same("run", 7, x.run(true)); break;
                case 1: Check.same("list", 17, x.list()); break;
                case 2: Check.same("word", 0x72300a0000000000L, x.word(14)); break;
                case 3: Check.same("program", 0, x.program()); break;
                case 4: Check.same("feed", 20, x.feed(1, 2, 3, 4, 5)); break;
                default: Check.refuses("cell", IndexOutOfBoundsException.class, () -> x.cell(256));
            }
        }
    }

    /** The greatest program told again and again for all calls, with the greatest LISTING each time. */
    private static void dearCalls() {
        Check.sentence("An object is used for at most 512 calls after it has been made");
        StringBuilder machine = new StringBuilder();
        for (int k = 0; k < 19; k++) {
            machine.append((char) ('a' + k) + "=" + (char) ('b' + k) + " 1 ");
        }
        machine.append("t=ret(a) 1 t=add(a,a) 1 t=# 1");
        String program = "ret(" + sum(50) + ")";
        TileChoice x = Check.with(machine.toString(), program);
        int length = x.list();
        int calls = Supply.callsToFeed(machine.toString()) + Supply.callsToFeed(program) + 3;
        int round = Supply.callsToFeed(program) + 3;
        while (calls + round <= Supply.CALLS) {
            Check.same("program", -1, Check.program(x, program));
            Check.same("list", length, x.list());
            Check.same("run", 250, x.run(true));
            calls += round;
        }
    }

    private static String sum(int leaves) {
        return leaves == 1 ? "5" : "add(" + sum(leaves / 2) + "," + sum(leaves - leaves / 2) + ")";
    }
}
