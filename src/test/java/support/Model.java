import java.util.ArrayList;
import java.util.Arrays;
import java.util.HashMap;
import java.util.List;
import java.util.Map;
import java.util.TreeSet;
import java.util.regex.Matcher;
import java.util.regex.Pattern;

/** The document once more, as plainly as the Java library allows, to compare the program's answers with. */
final class Model {
    static final List<String> TWO = List.of("add", "sub", "mul", "and", "or", "xor", "shl", "shr", "lt");
    static final List<String> ONE = List.of("neg", "not", "load");
    static final List<String> TOP = List.of("set", "store", "ret");

    static final class Wrong extends RuntimeException {
        private static final long serialVersionUID = 1L;
        final int place;
        final int reason;

        Wrong(int place, int reason) {
            this.place = place;
            this.reason = reason;
        }
    }

    record Token(char type, String text, int place) {
    }

    /** A PAT (names: kind, var, #, or an op) or a NODE (names: var, #, or an op). */
    static final class Tree {
        String name;
        String kind;
        long low;
        long high;
        int place;
        int number;
        final List<Tree> parts = new ArrayList<>();
    }

    record Flat(String kind, Tree form, List<String> partKinds, int cost, int rule) {
        boolean isChain() {
            return form.name.equals("kind");
        }
    }

    record Way(int cost, int flat) {
    }

    static final class Step {
        Tree node;
        Flat flat;
        final List<Step> operands = new ArrayList<>();
        int need;
        int register;
    }

    final List<Flat> flats = new ArrayList<>();
    final List<String> kinds = new ArrayList<>();
    int rules;
    final List<Tree> trees = new ArrayList<>();
    final List<Tree> nodes = new ArrayList<>();
    final List<Tree> byEnd = new ArrayList<>();

    private List<Token> tokens;
    private int at;
    private final List<Integer> parts = new ArrayList<>();

    // ---- texts

    private static List<Token> cut(String text) {
        Pattern signs = Pattern.compile("([\\t\\n\\r ]+|;[^\\n]*)|(v[0-9]+)|([a-z]+)|(-?[0-9]+)|([(),=#:])|([\\s\\S])");
        List<Token> tokens = new ArrayList<>();
        Matcher m = signs.matcher(text);
        while (m.find()) {
            String s = m.group();
            if (m.group(1) != null) {
                continue;
            }
            char type = '!';
            if (m.group(2) != null && s.length() <= 3 && Integer.parseInt(s.substring(1)) <= 15) {
                type = 'v';
            } else if (m.group(3) != null && s.length() <= 8) {
                type = 'w';
            } else if (m.group(4) != null && isInt(s)) {
                type = 'n';
            } else if (m.group(5) != null) {
                type = s.charAt(0);
            }
            tokens.add(new Token(type, s, m.start()));
        }
        tokens.add(new Token('e', "", text.length()));
        return tokens;
    }

    private static boolean isInt(String s) {
        java.math.BigInteger n = new java.math.BigInteger(s);
        return n.bitLength() <= 31;
    }

    private Token now() {
        return tokens.get(at);
    }

    private Token want(char type) {
        Token t = now();
        if (t.type != type) {
            throw new Wrong(t.place, 1);
        }
        at++;
        return t;
    }

    private static boolean isReserved(String word) {
        return TWO.contains(word) || ONE.contains(word) || TOP.contains(word) || word.equals("var");
    }

    private static int partsOf(String name) {
        return TWO.contains(name) || name.equals("store") ? 2 : ONE.contains(name) || TOP.contains(name) ? 1 : 0;
    }

    /** Throws Wrong, or leaves the machine. */
    void readMachine(String text) {
        tokens = cut(text);
        at = 0;
        List<Token> lefts = new ArrayList<>();
        List<Tree> pats = new ArrayList<>();
        List<Token> costs = new ArrayList<>();
        List<Wrong> broken = new ArrayList<>();
        do {
            if (pats.size() == 60) {
                throw new Wrong(now().place, 1);
            }
            Token left = want('w');
            if (isReserved(left.text)) {
                throw new Wrong(left.place, 1);
            }
            lefts.add(left);
            want('=');
            pats.add(readPat(1, broken));
            costs.add(want('n'));
        } while (now().type != 'e');
        for (Token left : lefts) {
            if (!kinds.contains(left.text)) {
                kinds.add(left.text);
                if (kinds.size() == 21) {
                    broken.add(new Wrong(left.place, 4));
                }
            }
        }
        for (Token cost : costs) {
            int c = Integer.parseInt(cost.text);
            if (c < 0 || c > 1000) {
                broken.add(new Wrong(cost.place, 3));
            }
        }
        for (Tree pat : pats) {
            findUnknown(pat, broken);
        }
        if (parts.size() > 60) {
            broken.add(new Wrong(parts.get(60), 4));
        }
        if (!broken.isEmpty()) {
            broken.sort((p, q) -> p.place != q.place ? p.place - q.place : p.reason - q.reason);
            throw broken.get(0);
        }
        for (int r = 0; r < pats.size(); r++) {
            flatten(pats.get(r), lefts.get(r).text, Integer.parseInt(costs.get(r).text), r);
        }
        rules = pats.size();
    }

    private void findUnknown(Tree pat, List<Wrong> broken) {
        if (pat.name.equals("kind") && !kinds.contains(pat.kind)) {
            broken.add(new Wrong(pat.place, 2));
        }
        for (Tree part : pat.parts) {
            findUnknown(part, broken);
        }
    }

    private Tree readPat(int depth, List<Wrong> broken) {
        Token t = now();
        if (depth > 20) {
            throw new Wrong(t.place, 1);
        }
        Tree pat = new Tree();
        pat.place = t.place;
        if (t.type == 'w' && !isReserved(t.text)) {
            at++;
            pat.name = "kind";
            pat.kind = t.text;
            return pat;
        }
        if (depth > 1) {
            parts.add(t.place);
        }
        if (t.type == '#') {
            at++;
            pat.name = "#";
            pat.low = Integer.MIN_VALUE;
            pat.high = Integer.MAX_VALUE;
            if (now().type == '(') {
                at++;
                pat.low = Integer.parseInt(want('n').text);
                pat.high = pat.low;
                if (now().type == ':') {
                    at++;
                    Token high = want('n');
                    pat.high = Integer.parseInt(high.text);
                    if (pat.high < pat.low) {
                        broken.add(new Wrong(high.place, 3));
                    }
                }
                want(')');
            }
            return pat;
        }
        pat.name = want('w').text;
        for (int i = 0; i < partsOf(pat.name); i++) {
            want(i == 0 ? '(' : ',');
            pat.parts.add(readPat(depth + 1, broken));
        }
        if (partsOf(pat.name) > 0) {
            want(')');
        }
        return pat;
    }

    private void flatten(Tree pat, String kind, int cost, int rule) {
        List<String> partKinds = new ArrayList<>();
        for (Tree part : pat.parts) {
            if (part.name.equals("kind")) {
                partKinds.add(part.kind);
            } else {
                String own = "PART" + part.place;
                flatten(part, own, 0, rule);
                partKinds.add(own);
            }
        }
        flats.add(new Flat(kind, pat, partKinds, cost, rule));
    }

    /** Throws Wrong, or leaves the program. */
    void readProgram(String text) {
        tokens = cut(text);
        at = 0;
        do {
            Token t = now();
            if (trees.size() == 60 || t.type != 'w' || !TOP.contains(t.text)) {
                throw new Wrong(t.place, 1);
            }
            at++;
            Tree top = newNode(t.text, t.place);
            if (t.text.equals("set")) {
                top.low = Integer.parseInt(want('v').text.substring(1));
            }
            readParts(top, 1);
            trees.add(top);
        } while (now().type != 'e');
        if (nodes.size() > 400) {
            throw new Wrong(nodes.get(400).place, 4);
        }
    }

    private Tree newNode(String name, int place) {
        Tree node = new Tree();
        node.name = name;
        node.place = place;
        node.number = nodes.size();
        nodes.add(node);
        return node;
    }

    private void readParts(Tree node, int depth) {
        for (int i = 0; i < partsOf(node.name); i++) {
            want(i == 0 ? '(' : ',');
            Token t = now();
            if (depth > 30) {
                throw new Wrong(t.place, 1);
            }
            at++;
            if (t.type == 'n' || t.type == 'v') {
                Tree leaf = newNode(t.type == 'n' ? "#" : "var", t.place);
                leaf.low = Integer.parseInt(t.type == 'n' ? t.text : t.text.substring(1));
                byEnd.add(leaf);
                node.parts.add(leaf);
            } else if (t.type == 'w' && (TWO.contains(t.text) || ONE.contains(t.text))) {
                Tree part = newNode(t.text, t.place);
                node.parts.add(part);
                readParts(part, depth + 1);
            } else {
                throw new Wrong(t.place, 1);
            }
        }
        want(')');
        byEnd.add(node);
    }

    // ---- covering

    final Map<Tree, Map<String, Way>> ways = new HashMap<>();

    void cover() {
        for (Tree node : byEnd) {
            List<Map<String, Way>> below = new ArrayList<>();
            for (Tree part : node.parts) {
                below.add(ways.get(part));
            }
            ways.put(node, reckon(node, below));
        }
    }

    private Map<String, Way> reckon(Tree node, List<Map<String, Way>> below) {
        Map<String, Way> own = new HashMap<>();
        for (int f = 0; f < flats.size(); f++) {
            Flat flat = flats.get(f);
            if (flat.isChain() || !flat.form.name.equals(node.name)) {
                continue;
            }
            if (node.name.equals("#") && (node.low < flat.form.low || node.low > flat.form.high)) {
                continue;
            }
            int cost = flat.cost;
            boolean can = true;
            for (int i = 0; i < node.parts.size() && can; i++) {
                Way way = below.get(i).get(flat.partKinds.get(i));
                can = way != null;
                cost += can ? way.cost : 0;
            }
            if (can) {
                offer(own, flat.kind, cost, f);
            }
        }
        boolean changed = true;
        while (changed) {
            changed = false;
            for (int f = 0; f < flats.size(); f++) {
                Flat flat = flats.get(f);
                if (flat.isChain() && own.containsKey(flat.form.kind)) {
                    changed |= offer(own, flat.kind, own.get(flat.form.kind).cost + flat.cost, f);
                }
            }
        }
        return own;
    }

    private static boolean offer(Map<String, Way> own, String kind, int cost, int flat) {
        Way before = own.get(kind);
        if (before != null && before.cost <= cost) {
            return false;
        }
        own.put(kind, new Way(cost, flat));
        return true;
    }

    Way way(int n, int k) {
        return ways.get(nodes.get(n)).get(kinds.get(k));
    }

    /** The least cost by whole tiles, without FLAT RULES: what the covering must come to. */
    int tileCost(Tree node, String kind, Map<Tree, Map<String, Integer>> known) {
        Map<String, Integer> own = known.get(node);
        if (own == null) {
            own = new HashMap<>();
            for (Tree part : node.parts) {
                tileCost(part, kind, known);
            }
            boolean changed = true;
            while (changed) {
                changed = false;
                for (Flat flat : flats) {
                    if (flat.kind.startsWith("PART")) {
                        continue;
                    }
                    int cost = tile(flat.form, node, own, known);
                    if (cost >= 0 && cost + flat.cost < own.getOrDefault(flat.kind, Integer.MAX_VALUE)) {
                        own.put(flat.kind, cost + flat.cost);
                        changed = true;
                    }
                }
            }
            known.put(node, own);
        }
        return own.getOrDefault(kind, -1);
    }

    private int tile(Tree pat, Tree node, Map<String, Integer> top, Map<Tree, Map<String, Integer>> known) {
        if (pat.name.equals("kind")) {
            Map<String, Integer> costs = top != null ? top : known.get(node);
            return costs.getOrDefault(pat.kind, -1);
        }
        if (!pat.name.equals(node.name)) {
            return -1;
        }
        if (pat.name.equals("#")) {
            return node.low >= pat.low && node.low <= pat.high ? 0 : -1;
        }
        int sum = 0;
        for (int i = 0; i < pat.parts.size(); i++) {
            int cost = tile(pat.parts.get(i), node.parts.get(i), null, known);
            if (cost < 0) {
                return -1;
            }
            sum += cost;
        }
        return sum;
    }

    int covered() {
        int covered = 0;
        for (Tree tree : trees) {
            covered += ways.get(tree).containsKey(kinds.get(0)) ? 1 : 0;
        }
        return covered;
    }

    int coveredCost() {
        int sum = 0;
        for (Tree tree : trees) {
            Way way = ways.get(tree).get(kinds.get(0));
            sum += way == null ? 0 : way.cost;
        }
        return sum;
    }

    // ---- states

    final Map<Tree, Integer> stateOf = new HashMap<>();
    final List<Map<String, Way>> states = new ArrayList<>();
    int lookedUp;
    boolean told = true;

    void findStates() {
        Map<List<Object>, Integer> known = new HashMap<>();
        for (Tree node : byEnd) {
            List<Object> key = new ArrayList<>();
            List<Map<String, Way>> below = new ArrayList<>();
            key.add(node.name);
            if (node.name.equals("#")) {
                key.add(node.low);
            }
            for (Tree part : node.parts) {
                key.add(stateOf.get(part));
                below.add(states.get(stateOf.get(part)));
            }
            if (known.containsKey(key)) {
                lookedUp++;
            } else {
                Map<String, Way> state = lowered(reckon(node, below));
                if (!states.contains(state)) {
                    states.add(state);
                }
                known.put(key, states.indexOf(state));
            }
            stateOf.put(node, known.get(key));
        }
        told = states.size() <= 300;
    }

    private static Map<String, Way> lowered(Map<String, Way> own) {
        int least = Integer.MAX_VALUE;
        for (Way way : own.values()) {
            least = Math.min(least, way.cost);
        }
        Map<String, Way> state = new HashMap<>();
        for (Map.Entry<String, Way> e : own.entrySet()) {
            if (e.getValue().cost - least < 1000) {
                state.put(e.getKey(), new Way(e.getValue().cost - least, e.getValue().flat));
            }
        }
        return state;
    }

    boolean even() {
        for (Tree node : nodes) {
            for (Map.Entry<String, Way> e : states.get(stateOf.get(node)).entrySet()) {
                Way way = ways.get(node).get(e.getKey());
                if (way == null || way.flat != e.getValue().flat) {
                    return false;
                }
            }
        }
        return true;
    }

    // ---- choosing

    final List<List<Step>> firstSteps = new ArrayList<>();
    final List<Step> order = new ArrayList<>();
    final StringBuilder listing = new StringBuilder();
    int greatestNeed;

    void choose() {
        for (Tree tree : trees) {
            List<Step> first = stepsFrom(tree, kinds.get(0));
            firstSteps.add(first);
            TreeSet<Integer> free = new TreeSet<>();
            for (int r = 0; r < 1000; r++) {
                free.add(r);
            }
            for (Step step : first) {
                reckonNeed(step);
            }
            putAll(first, free);
        }
    }

    private List<Step> stepsFrom(Tree node, String kind) {
        int f = ways.get(node).get(kind).flat;
        Flat flat = flats.get(f);
        List<Step> below = new ArrayList<>();
        if (flat.isChain()) {
            below.addAll(stepsFrom(node, flat.form.kind));
        }
        for (int i = 0; i < flat.partKinds.size(); i++) {
            below.addAll(stepsFrom(node.parts.get(i), flat.partKinds.get(i)));
        }
        if (flat.cost == 0) {
            return below;
        }
        Step step = new Step();
        step.node = node;
        step.flat = flat;
        step.operands.addAll(below);
        return List.of(step);
    }

    private void reckonNeed(Step step) {
        List<Integer> needs = new ArrayList<>();
        for (Step operand : step.operands) {
            reckonNeed(operand);
            needs.add(-operand.need);
        }
        needs.sort(null);
        step.need = 1;
        for (int i = 0; i < needs.size(); i++) {
            step.need = Math.max(step.need, i - needs.get(i));
        }
        greatestNeed = Math.max(greatestNeed, step.need);
    }

    private void putAll(List<Step> steps, TreeSet<Integer> free) {
        List<Step> sorted = new ArrayList<>(steps);
        sorted.sort((p, q) -> q.need - p.need);
        for (Step step : sorted) {
            putAll(step.operands, free);
            for (Step operand : step.operands) {
                free.add(operand.register);
            }
            step.register = free.pollFirst();
            order.add(step);
            listing.append("r").append(step.register).append(" = ").append(step.flat.rule);
            for (Step operand : step.operands) {
                listing.append(" r").append(operand.register);
            }
            listing.append("\n");
        }
    }

    // ---- runs

    int[] variables;
    int[] cells;
    private Integer answer;

    int runTrees(int[] given) {
        variables = given.clone();
        cells = new int[256];
        answer = null;
        for (Tree tree : trees) {
            value(tree, Map.of());
            if (answer != null) {
                return answer;
            }
        }
        return 0;
    }

    int runChosen(int[] given) {
        variables = given.clone();
        cells = new int[256];
        answer = null;
        for (int t = 0; t < trees.size(); t++) {
            Map<Tree, Integer> first = doSteps(firstSteps.get(t));
            value(trees.get(t), first);
            if (answer != null) {
                return answer;
            }
        }
        return 0;
    }

    private Map<Tree, Integer> doSteps(List<Step> steps) {
        Map<Tree, Integer> values = new HashMap<>();
        List<Step> sorted = new ArrayList<>(steps);
        sorted.sort((p, q) -> q.need - p.need);
        for (Step step : sorted) {
            values.put(step.node, value(step.node, doSteps(step.operands)));
        }
        return values;
    }

    private int value(Tree node, Map<Tree, Integer> known) {
        if (known.containsKey(node)) {
            return known.get(node);
        }
        int[] p = new int[2];
        for (int i = 0; i < node.parts.size(); i++) {
            p[i] = value(node.parts.get(i), known);
        }
        switch (node.name) {
            case "#": return (int) node.low;
            case "var": return variables[(int) node.low];
            case "add": return p[0] + p[1];
            case "sub": return p[0] - p[1];
            case "mul": return p[0] * p[1];
            case "and": return p[0] & p[1];
            case "or": return p[0] | p[1];
            case "xor": return p[0] ^ p[1];
            case "shl": return p[0] << (p[1] & 31);
            case "shr": return p[0] >> (p[1] & 31);
            case "lt": return p[0] < p[1] ? 1 : 0;
            case "neg": return 0 - p[0];
            case "not": return -1 - p[0];
            case "load": return cells[p[0] & 255];
            case "set": variables[(int) node.low] = p[0]; return 0;
            case "store": cells[p[0] & 255] = p[1]; return 0;
            default: answer = p[0]; return 0;
        }
    }

    int[] allVariables() {
        return Arrays.copyOf(variables, 16);
    }
}
