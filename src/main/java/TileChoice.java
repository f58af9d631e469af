import java.util.Arrays;

/** Chooses instructions for trees by tiles, and runs both; the document's numbered promises say how. */
public final class TileChoice {
    private static final int TAPE_LIMIT = 8192;
    private static final int FEED_BYTES = 20;
    private static final int VARIABLE_COUNT = 16;
    private static final int CELL_COUNT = 256;
    private static final int RULE_LIMIT = 60;
    private static final int KIND_LIMIT = 20;
    private static final int PART_LIMIT = 60;
    private static final int FLAT_LIMIT = RULE_LIMIT + PART_LIMIT;
    private static final int WIDTH_LIMIT = KIND_LIMIT + PART_LIMIT;
    private static final int TREE_LIMIT = 60;
    private static final int NODE_LIMIT = 400;
    private static final int STATE_LIMIT = 300;
    private static final int COST_LIMIT = 1000;
    private static final int OPEN_PATS = 20;
    private static final int OPEN_EXPRESSIONS = 30;
    private static final int WORD_LIMIT = 8;
    private static final int NONE = -1;

    // The names of NODES and of PATS. Their order matters: the OPS stand first, those with two parts before the others.
    private static final int ADD = 0;
    private static final int SUB = 1;
    private static final int MUL = 2;
    private static final int AND = 3;
    private static final int OR = 4;
    private static final int XOR = 5;
    private static final int SHL = 6;
    private static final int SHR = 7;
    private static final int LT = 8;
    private static final int NEG = 9;
    private static final int NOT = 10;
    private static final int LOAD = 11;
    private static final int SET = 12;
    private static final int STORE = 13;
    private static final int RET = 14;
    private static final int VAR = 15;
    private static final int RESERVED_WORDS = 16;
    private static final int NUMBER = 16;
    private static final int CHAIN = 17;
    private static final int OTHER_WORD = 18;

    // What a sign is; the marks stand for themselves, and none of them is so low.
    private static final int SIGN_END = 0;
    private static final int SIGN_BAD = 1;
    private static final int SIGN_WORD = 2;
    private static final int SIGN_VARIABLE = 3;
    private static final int SIGN_NUMBER = 4;

    private static final int REASON_SIGN = 1;
    private static final int REASON_KIND = 2;
    private static final int REASON_NUMBER = 3;
    private static final int REASON_LIMIT = 4;

    private final byte[] tape;
    private int tapeLength;
    private final int[] given;
    private final Signs signs;
    private final Machine tiles;
    private final MachineText machineText;
    private final Trees trees;
    private final ProgramText programText;
    private final Covering covering;
    private final States states;
    private final Choice choice;
    private final Runner runner;
    private final Result result;
    private boolean machineThere;
    private boolean programThere;
    private boolean ran;

    public TileChoice() {
        tape = new byte[TAPE_LIMIT];
        given = new int[VARIABLE_COUNT];
        signs = new Signs(tape);
        tiles = new Machine();
        machineText = new MachineText(signs, tiles);
        trees = new Trees();
        programText = new ProgramText(signs, trees);
        covering = new Covering(tiles, trees);
        states = new States(covering, tiles, trees);
        choice = new Choice(covering, tiles, trees);
        runner = new Runner(trees);
        result = new Result();
    }

    public int feed(int a, int b, int c, int d, int e) throws IndexOutOfBoundsException {
        if (tapeLength + FEED_BYTES > TAPE_LIMIT) {
            throw new IndexOutOfBoundsException("the tape would have more than 8192 bytes");
        }
        appendFour(a);
        appendFour(b);
        appendFour(c);
        appendFour(d);
        appendFour(e);
        return tapeLength;
    }

    public int end(int n) throws IllegalArgumentException {
        if (n < 0 || n > tapeLength) {
            throw new IllegalArgumentException("not a length that the tape can be cut to");
        }
        tapeLength = n;
        return n;
    }

    public int machine() {
        int place = machineText.readAll(tapeLength);
        machineThere = place < 0;
        textIsRead();
        return place;
    }

    public int program() {
        int place = programText.readAll(tapeLength);
        programThere = place < 0;
        textIsRead();
        return place;
    }

    public int begin(int v, int x) throws IllegalArgumentException {
        if (v < 0 || v >= VARIABLE_COUNT) {
            throw new IllegalArgumentException("no such variable");
        }
        int before = given[v];
        given[v] = x;
        ran = false;
        return before;
    }

    public int count(int what) throws IllegalArgumentException {
        switch (what) {
            case 0: return machineThere ? tiles.rules : 0;
            case 1: return machineThere ? tiles.kinds : 0;
            case 2: return machineThere ? tiles.flats : 0;
            case 3: return programThere ? trees.count : 0;
            case 4: return programThere ? trees.nodes : 0;
            case 5: return signs.reason;
            case 6: return result.length;
            case 7: return tapeLength;
            case 8: return bothThere() ? covering.coveredTrees : 0;
            case 9: return bothThere() ? covering.costOfTrees : 0;
            case 10: return bothThere() && states.told ? states.found : 0;
            case 11: return bothThere() && states.told ? states.foundAgain : 0;
            case 12: return allCovered() ? choice.instructions : 0;
            case 13: return allCovered() ? choice.greatestNeed : 0;
            default: throw new IllegalArgumentException("nothing is counted under this number");
        }
    }

    public int cost(int n, int k) throws IllegalStateException, IndexOutOfBoundsException {
        needBoth();
        needNode(n);
        needKind(k);
        return covering.costOf(n, k);
    }

    public int rule(int n, int k) throws IllegalStateException, IndexOutOfBoundsException {
        needBoth();
        needNode(n);
        needKind(k);
        return covering.flatOf(n, k);
    }

    public int state(int n) throws IllegalStateException, IndexOutOfBoundsException {
        needBoth();
        needNode(n);
        return states.told ? states.stateOf(n) : NONE;
    }

    public boolean even() throws IllegalStateException {
        needBoth();
        return states.told && states.areEven();
    }

    public int run(boolean chosen) throws IllegalStateException {
        if (chosen) {
            needCovered();
        } else if (!programThere) {
            throw new IllegalStateException("there is no program");
        }
        runner.start(given);
        if (chosen) {
            runner.doNodes(choice.putNodes, choice.size);
        } else {
            runner.doNodes(trees.roots, trees.count);
        }
        ran = true;
        return runner.answer;
    }

    public int variable(int v) throws IllegalStateException, IllegalArgumentException {
        needRun();
        if (v < 0 || v >= VARIABLE_COUNT) {
            throw new IllegalArgumentException("no such variable");
        }
        return runner.variables[v];
    }

    public int cell(int j) throws IllegalStateException, IndexOutOfBoundsException {
        needRun();
        if (j < 0 || j >= CELL_COUNT) {
            throw new IndexOutOfBoundsException("no such cell");
        }
        return runner.cells[j];
    }

    public int list() throws IllegalStateException {
        needCovered();
        choice.writeTo(result);
        return result.length;
    }

    public long word(int i) throws IndexOutOfBoundsException {
        if (i < 0 || i >= result.length) {
            throw new IndexOutOfBoundsException("the result has no such byte");
        }
        return result.eightFrom(i);
    }

    private void appendFour(int bytes) {
        for (int shift = 24; shift >= 0 && tapeLength < TAPE_LIMIT; shift -= 8) {
            tape[tapeLength] = (byte) (bytes >> shift);
            tapeLength++;
        }
    }

    private void textIsRead() {
        tapeLength = 0;
        ran = false;
        if (!bothThere()) {
            return;
        }
        covering.coverAll();
        states.findAll();
        if (allCovered()) {
            choice.make();
        }
    }

    private boolean bothThere() {
        return machineThere && programThere;
    }

    private boolean allCovered() {
        return bothThere() && covering.coveredTrees == trees.count;
    }

    private void needBoth() {
        if (!bothThere()) {
            throw new IllegalStateException("there is no machine or no program");
        }
    }

    private void needCovered() {
        if (!allCovered()) {
            throw new IllegalStateException("there is no machine, no program, or a tree is not covered");
        }
    }

    private void needRun() {
        if (!ran) {
            throw new IllegalStateException("no run since the latest text and begin");
        }
    }

    private void needNode(int n) {
        if (n < 0 || n >= trees.nodes) {
            throw new IndexOutOfBoundsException("no such node");
        }
    }

    private void needKind(int k) {
        if (k < 0 || k >= tiles.kinds) {
            throw new IndexOutOfBoundsException("no such kind");
        }
    }

    private static int partsOf(int name) {
        if (name <= LT || name == STORE) {
            return 2;
        }
        return name < VAR ? 1 : 0;
    }

    private static int[] withRoom(int[] row, int size) {
        // At least doubled, so that what a long run throws away stays below what it keeps.
        return row.length >= size ? row : new int[Math.max(size, 2 * row.length)];
    }

    /** Cuts the tape into signs, goes along them, and remembers where and why the text is wrong. */
    private static final class Signs {
        private static final long FAR_TOO_GREAT = 1L << 40;

        private final byte[] text;
        private final long[] reserved;
        private int length;
        private int next;
        private int[] allSigns = new int[0];
        private int[] allPlaces = new int[0];
        private int[] allValues = new int[0];
        private long[] allLetters = new long[0];
        private int count;
        private int at;
        /** The sign that is looked at: what it is, where, its number or its word's name, its word. */
        int sign;
        int place;
        int value;
        long letters;
        int wrongAt;
        int reason;

        Signs(byte[] tape) {
            text = tape;
            reserved = new long[RESERVED_WORDS];
            for (int name = 0; name < RESERVED_WORDS; name++) {
                reserved[name] = lettersOf(reservedWord(name));
            }
            wrongAt = NONE;
        }

        void goToBegin() {
            at = -1;
            advance();
        }

        void advance() {
            // The end is the last sign, and nothing goes beyond it.
            if (at + 1 < count && at + 1 < allSigns.length) {
                at++;
                sign = allSigns[at];
                place = allPlaces[at];
                value = allValues[at];
                letters = allLetters[at];
            }
        }

        boolean take(int wanted) {
            if (sign != wanted) {
                wrongAt = place;
                reason = REASON_SIGN;
                return false;
            }
            advance();
            return true;
        }

        void refuse(int why) {
            wrongAt = place;
            reason = why;
        }

        boolean isRefused() {
            return wrongAt >= 0;
        }

        void cut(int bytes) {
            wrongAt = NONE;
            reason = 0;
            length = Math.min(bytes, text.length);
            makeRoom(length + 1);
            count = 0;
            next = 0;
            skipBlanks();
            for (int i = 0; i < length && next < length; i++) {
                readSign();
                keepSign();
                skipBlanks();
            }
            place = length;
            sign = SIGN_END;
            keepSign();
        }

        private void makeRoom(int size) {
            allSigns = withRoom(allSigns, size);
            allPlaces = withRoom(allPlaces, size);
            allValues = withRoom(allValues, size);
            if (allLetters.length < size) {
                allLetters = new long[Math.max(size, 2 * allLetters.length)];
            }
        }

        private void keepSign() {
            if (count < allSigns.length) {
                allSigns[count] = sign;
                allPlaces[count] = place;
                allValues[count] = value;
                allLetters[count] = letters;
                count++;
            }
        }

        private void readSign() {
            place = next;
            int first = text[next];
            if (first == 'v' && isDigitAt(next + 1)) {
                readVariable();
            } else if (isLetter(first)) {
                readLetters();
            } else if (isDigit(first) || first == '-' && isDigitAt(next + 1)) {
                readNumber();
            } else {
                next++;
                sign = isMark(first) ? first : SIGN_BAD;
            }
        }

        private void skipBlanks() {
            boolean remark = false;
            for (; next < length; next++) {
                int c = text[next];
                if (remark) {
                    remark = c != 10;
                } else if (c == ';') {
                    remark = true;
                } else if (c != 9 && c != 10 && c != 13 && c != 32) {
                    return;
                }
            }
        }

        private void readLetters() {
            int from = next;
            letters = 0;
            while (next < length && isLetter(text[next])) {
                letters = withLetter(letters, text[next]);
                next++;
            }
            sign = next - from <= WORD_LIMIT ? SIGN_WORD : SIGN_BAD;
            value = OTHER_WORD;
            for (int name = 0; name < RESERVED_WORDS; name++) {
                if (reserved[name] == letters) {
                    value = name;
                }
            }
        }

        private void readVariable() {
            next++;
            int from = next;
            long number = readDigits();
            sign = next - from <= 2 && number < VARIABLE_COUNT ? SIGN_VARIABLE : SIGN_BAD;
            value = (int) number;
        }

        private void readNumber() {
            boolean negative = text[next] == '-';
            if (negative) {
                next++;
            }
            long digits = readDigits();
            long number = negative ? -digits : digits;
            boolean isInt = number >= Integer.MIN_VALUE && number <= Integer.MAX_VALUE;
            sign = isInt ? SIGN_NUMBER : SIGN_BAD;
            value = (int) number;
        }

        private long readDigits() {
            long number = 0;
            while (next < length && isDigit(text[next])) {
                number = Math.min(number * 10 + (text[next] - '0'), FAR_TOO_GREAT);
                next++;
            }
            return number;
        }

        private boolean isDigitAt(int where) {
            return where < length && isDigit(text[where]);
        }

        private static boolean isDigit(int c) {
            return c >= '0' && c <= '9';
        }

        private static boolean isLetter(int c) {
            return c >= 'a' && c <= 'z';
        }

        private static boolean isMark(int c) {
            return c == '(' || c == ')' || c == ',' || c == '=' || c == '#' || c == ':';
        }

        private static long withLetter(long before, int letter) {
            // One number for each word of up to 12 letters: words are then compared without making texts.
            return before * 27 + (letter - 'a' + 1);
        }

        private static long lettersOf(String text) {
            long number = 0;
            for (int i = 0; i < text.length(); i++) {
                number = withLetter(number, text.charAt(i));
            }
            return number;
        }

        private static String reservedWord(int name) {
            switch (name) {
                case ADD: return "add";
                case SUB: return "sub";
                case MUL: return "mul";
                case AND: return "and";
                case OR: return "or";
                case XOR: return "xor";
                case SHL: return "shl";
                case SHR: return "shr";
                case LT: return "lt";
                case NEG: return "neg";
                case NOT: return "not";
                case LOAD: return "load";
                case SET: return "set";
                case STORE: return "store";
                case RET: return "ret";
                default: return "var";
            }
        }
    }

    /** The FLAT RULES of a machine; the PARTS are the KINDS from 'kinds' up to 'width'. */
    private static final class Machine {
        final int[] name = new int[FLAT_LIMIT];
        final int[] kind = new int[FLAT_LIMIT];
        /** The KIND of the first part; of a CHAIN its KIND; of numbers the least one. */
        final int[] left = new int[FLAT_LIMIT];
        /** The KIND of the second part; of numbers the greatest one. */
        final int[] right = new int[FLAT_LIMIT];
        final int[] price = new int[FLAT_LIMIT];
        final int[] ruleNumber = new int[FLAT_LIMIT];
        int rules;
        int kinds;
        int width;
        int flats;

        void clear(int leftKinds) {
            rules = 0;
            kinds = leftKinds;
            width = leftKinds;
            flats = 0;
        }

        int addForm(int formName, int first, int second) {
            if (flats >= FLAT_LIMIT) {
                return NONE;
            }
            name[flats] = formName;
            left[flats] = first;
            right[flats] = second;
            flats++;
            return flats - 1;
        }

        void finishForm(int flat, int formKind, int formPrice) {
            if (flat < 0 || flat >= FLAT_LIMIT) {
                return;
            }
            kind[flat] = formKind;
            price[flat] = formPrice;
            ruleNumber[flat] = rules;
        }

        void endRule(int kindsAndParts) {
            rules++;
            width = kindsAndParts;
        }
    }

    /** Reads a machine twice: for its signs and left KINDS alone, then, knowing these, to build the FLAT RULES. */
    private static final class MachineText {
        private final Signs signs;
        private final Machine tiles;
        private final long[] leftKinds = new long[RULE_LIMIT];
        private int leftCount;
        private int parts;
        private boolean building;

        MachineText(Signs signs, Machine tiles) {
            this.signs = signs;
            this.tiles = tiles;
        }

        int readAll(int length) {
            signs.cut(length);
            leftCount = 0;
            building = false;
            readRules();
            if (!signs.isRefused()) {
                tiles.clear(leftCount);
                building = true;
                readRules();
            }
            return signs.wrongAt;
        }

        private void readRules() {
            parts = 0;
            signs.goToBegin();
            for (int r = 0; r < RULE_LIMIT && (r == 0 || signs.sign != SIGN_END); r++) {
                readOneRule();
                if (signs.isRefused()) {
                    return;
                }
            }
            if (signs.sign != SIGN_END) {
                signs.refuse(REASON_SIGN);
            }
        }

        private void readOneRule() {
            int kind = readLeftKind();
            if (kind < 0 || !signs.take('=')) {
                return;
            }
            int flat = readForm(1);
            if (flat < 0) {
                return;
            }
            int price = signs.value;
            if (signs.sign != SIGN_NUMBER) {
                signs.refuse(REASON_SIGN);
            } else if (building && (price < 0 || price > COST_LIMIT)) {
                signs.refuse(REASON_NUMBER);
            } else {
                finish(flat, kind, price);
                signs.advance();
            }
            if (building) {
                tiles.endRule(leftCount + parts);
            }
        }

        private int readLeftKind() {
            if (!isAtKind()) {
                signs.refuse(REASON_SIGN);
                return NONE;
            }
            int kind = findLeftKind();
            if (kind < 0 && leftCount < RULE_LIMIT) {
                kind = leftCount;
                leftKinds[kind] = signs.letters;
                leftCount++;
            }
            if (building && kind >= KIND_LIMIT) {
                signs.refuse(REASON_LIMIT);
                return NONE;
            }
            signs.advance();
            return kind;
        }

        private int readPatWithin(int depth) {
            if (depth > OPEN_PATS) {
                signs.refuse(REASON_SIGN);
                return NONE;
            }
            if (isAtKind()) {
                return readKindInPat();
            }
            if (building && parts >= PART_LIMIT) {
                signs.refuse(REASON_LIMIT);
                return NONE;
            }
            int part = leftCount + parts;
            parts++;
            int flat = readForm(depth);
            if (flat < 0) {
                return NONE;
            }
            finish(flat, part, 0);
            return part;
        }

        private int readKindInPat() {
            int kind = findLeftKind();
            if (building && kind < 0) {
                signs.refuse(REASON_KIND);
                return NONE;
            }
            signs.advance();
            return Math.max(kind, 0);
        }

        private int readForm(int depth) {
            if (isAtKind()) {
                int kind = readKindInPat();
                return kind < 0 ? NONE : add(CHAIN, kind, 0);
            }
            if (signs.sign == '#') {
                signs.advance();
                return readNumbers();
            }
            int name = signs.value;
            if (!signs.take(SIGN_WORD)) {
                return NONE;
            }
            if (name == VAR) {
                return add(VAR, 0, 0);
            }
            if (!signs.take('(')) {
                return NONE;
            }
            int first = readPatWithin(depth + 1);
            int second = 0;
            if (first >= 0 && partsOf(name) == 2) {
                second = signs.take(',') ? readPatWithin(depth + 1) : NONE;
            }
            if (first < 0 || second < 0 || !signs.take(')')) {
                return NONE;
            }
            return add(name, first, second);
        }

        private int readNumbers() {
            if (signs.sign != '(') {
                return add(NUMBER, Integer.MIN_VALUE, Integer.MAX_VALUE);
            }
            signs.advance();
            int least = signs.value;
            int greatest = least;
            if (!signs.take(SIGN_NUMBER)) {
                return NONE;
            }
            if (signs.sign == ':') {
                signs.advance();
                greatest = signs.value;
                if (building && greatest < least) {
                    signs.refuse(REASON_NUMBER);
                    return NONE;
                }
                if (!signs.take(SIGN_NUMBER)) {
                    return NONE;
                }
            }
            return signs.take(')') ? add(NUMBER, least, greatest) : NONE;
        }

        private boolean isAtKind() {
            return signs.sign == SIGN_WORD && signs.value == OTHER_WORD;
        }

        private int findLeftKind() {
            for (int kind = 0; kind < leftCount; kind++) {
                if (leftKinds[kind] == signs.letters) {
                    return kind;
                }
            }
            return NONE;
        }

        private int add(int name, int first, int second) {
            return building ? tiles.addForm(name, first, second) : 0;
        }

        private void finish(int flat, int kind, int price) {
            if (building) {
                tiles.finishForm(flat, kind, price);
            }
        }
    }

    /** The NODES of a program, numbered by their first signs, and their order by ends. */
    private static final class Trees {
        final int[] name = new int[NODE_LIMIT];
        final int[] left = new int[NODE_LIMIT];
        final int[] right = new int[NODE_LIMIT];
        /** The number; the variable's number, of set too. */
        final int[] value = new int[NODE_LIMIT];
        final int[] byEnd = new int[NODE_LIMIT];
        final int[] roots = new int[TREE_LIMIT];
        int count;
        int nodes;
        private int ended;

        void clear() {
            count = 0;
            nodes = 0;
            ended = 0;
        }

        void beginTree() {
            if (count < TREE_LIMIT) {
                roots[count] = nodes;
                count++;
            }
        }

        int addNode(int nodeName, int nodeValue) {
            // NODES beyond the limit are counted, not kept: the text is read to its end before it is refused.
            if (nodes < NODE_LIMIT) {
                name[nodes] = nodeName;
                value[nodes] = nodeValue;
                left[nodes] = NONE;
                right[nodes] = NONE;
            }
            nodes++;
            return nodes - 1;
        }

        void endNode(int node, int first, int second) {
            if (node < 0 || node >= NODE_LIMIT || ended >= NODE_LIMIT) {
                return;
            }
            left[node] = first;
            right[node] = second;
            byEnd[ended] = node;
            ended++;
        }
    }

    /** Reads a program's text into trees. */
    private static final class ProgramText {
        private final Signs signs;
        private final Trees trees;
        private int surplusAt;

        ProgramText(Signs signs, Trees trees) {
            this.signs = signs;
            this.trees = trees;
        }

        int readAll(int length) {
            surplusAt = NONE;
            trees.clear();
            signs.cut(length);
            signs.goToBegin();
            readTrees();
            if (!signs.isRefused() && surplusAt >= 0) {
                signs.wrongAt = surplusAt;
                signs.reason = REASON_LIMIT;
            }
            return signs.wrongAt;
        }

        private void readTrees() {
            for (int t = 0; t < TREE_LIMIT && (t == 0 || signs.sign != SIGN_END); t++) {
                readTree();
                if (signs.isRefused()) {
                    return;
                }
            }
            if (signs.sign != SIGN_END) {
                signs.refuse(REASON_SIGN);
            }
        }

        private void readTree() {
            int name = signs.sign == SIGN_WORD ? signs.value : OTHER_WORD;
            if (name != SET && name != STORE && name != RET) {
                signs.refuse(REASON_SIGN);
                return;
            }
            trees.beginTree();
            int node = openNode(name, 0);
            if (name == SET) {
                int variable = signs.value;
                if (!signs.take(SIGN_VARIABLE)) {
                    return;
                }
                if (node < NODE_LIMIT) {
                    trees.value[node] = variable;
                }
            }
            readParts(node, name, 1);
        }

        private int readExpression(int depth) {
            if (depth > OPEN_EXPRESSIONS) {
                signs.refuse(REASON_SIGN);
                return NONE;
            }
            if (signs.sign == SIGN_NUMBER || signs.sign == SIGN_VARIABLE) {
                int leaf = openNode(signs.sign == SIGN_NUMBER ? NUMBER : VAR, signs.value);
                trees.endNode(leaf, NONE, NONE);
                return leaf;
            }
            if (signs.sign != SIGN_WORD || signs.value > LOAD) {
                signs.refuse(REASON_SIGN);
                return NONE;
            }
            int name = signs.value;
            int node = openNode(name, 0);
            return readParts(node, name, depth + 1) ? node : NONE;
        }

        private boolean readParts(int node, int name, int depth) {
            if (!signs.take('(')) {
                return false;
            }
            int first = readExpression(depth);
            int second = NONE;
            if (first >= 0 && partsOf(name) == 2) {
                second = signs.take(',') ? readExpression(depth) : NONE;
            }
            if (signs.isRefused() || !signs.take(')')) {
                return false;
            }
            trees.endNode(node, first, second);
            return true;
        }

        private int openNode(int name, int value) {
            int node = trees.addNode(name, value);
            if (node == NODE_LIMIT) {
                surplusAt = signs.place;
            }
            signs.advance();
            return node;
        }
    }

    /** The cost and FLAT RULE of each NODE as each KIND, a row of 'width' for each NODE. */
    private static final class Covering {
        private final Machine tiles;
        private final Trees trees;
        /** The NODE that is being reckoned: its cost and FLAT RULE for each KIND. */
        final int[] costs = new int[WIDTH_LIMIT];
        final int[] flats = new int[WIDTH_LIMIT];
        private int[] allCosts = new int[0];
        private int[] allFlats = new int[0];
        int coveredTrees;
        int costOfTrees;

        Covering(Machine tiles, Trees trees) {
            this.tiles = tiles;
            this.trees = trees;
        }

        int costOf(int node, int kind) {
            return at(allCosts, node * tiles.width + kind);
        }

        int flatOf(int node, int kind) {
            return at(allFlats, node * tiles.width + kind);
        }

        void coverAll() {
            int size = Math.min(trees.nodes, NODE_LIMIT) * tiles.width;
            allCosts = withRoom(allCosts, size);
            allFlats = withRoom(allFlats, size);
            // Parts have greater numbers than the NODES that they are parts of.
            for (int node = Math.min(trees.nodes, NODE_LIMIT) - 1; node >= 0; node--) {
                reckon(node, allCosts, trees.left[node], trees.right[node]);
                copyRow(costs, allCosts, node);
                copyRow(flats, allFlats, node);
            }
            sumTrees();
        }

        private void sumTrees() {
            coveredTrees = 0;
            costOfTrees = 0;
            for (int t = 0; t < trees.count && t < TREE_LIMIT; t++) {
                int treeCost = costOf(trees.roots[t], 0);
                if (treeCost >= 0) {
                    coveredTrees++;
                    costOfTrees += treeCost;
                }
            }
        }

        /** Reckons a NODE into 'costs' and 'flats'; its parts' costs stand in two rows of partCosts. */
        void reckon(int node, int[] partCosts, int leftRow, int rightRow) {
            for (int kind = 0; kind < tiles.width && kind < WIDTH_LIMIT; kind++) {
                costs[kind] = NONE;
                flats[kind] = NONE;
            }
            int name = trees.name[node];
            for (int flat = 0; flat < tiles.flats && flat < FLAT_LIMIT; flat++) {
                if (tiles.name[flat] != name) {
                    continue;
                }
                if (partsOf(name) == 0) {
                    offerLeaf(flat, name, trees.value[node]);
                } else {
                    int first = at(partCosts, leftRow * tiles.width + tiles.left[flat]);
                    int second = partsOf(name) == 1 ? 0 : at(partCosts, rightRow * tiles.width + tiles.right[flat]);
                    if (first >= 0 && second >= 0) {
                        offer(flat, tiles.price[flat] + first + second);
                    }
                }
            }
            followChains();
        }

        private void offerLeaf(int flat, int name, int number) {
            if (name == VAR || number >= tiles.left[flat] && number <= tiles.right[flat]) {
                offer(flat, tiles.price[flat]);
            }
        }

        private void followChains() {
            boolean changed = true;
            // A least cost comes by no KIND twice, so as many passes as there are KINDS are enough.
            for (int pass = 0; pass <= KIND_LIMIT && changed; pass++) {
                changed = false;
                for (int flat = 0; flat < tiles.flats && flat < FLAT_LIMIT; flat++) {
                    if (tiles.name[flat] == CHAIN) {
                        int below = at(costs, tiles.left[flat]);
                        changed |= below >= 0 && offer(flat, tiles.price[flat] + below);
                    }
                }
            }
        }

        private boolean offer(int flat, int price) {
            int kind = tiles.kind[flat];
            if (kind < 0 || kind >= WIDTH_LIMIT || flats[kind] >= 0 && costs[kind] <= price) {
                return false;
            }
            costs[kind] = price;
            flats[kind] = flat;
            return true;
        }

        void copyRow(int[] from, int[] rows, int row) {
            int start = row * tiles.width;
            for (int kind = 0; kind < tiles.width && kind < from.length && start + kind < rows.length; kind++) {
                rows[start + kind] = from[kind];
            }
        }

        static int at(int[] row, int index) {
            return index >= 0 && index < row.length ? row[index] : NONE;
        }
    }

    /** The STATES of a program's NODES, found anew for each machine and program. */
    private static final class States {
        private final Covering covering;
        private final Machine tiles;
        private final Trees trees;
        private final int[] ofNode = new int[NODE_LIMIT];
        private final int[] reckoned = new int[NODE_LIMIT];
        private int reckonedCount;
        private int[] stateCosts = new int[0];
        private int[] stateFlats = new int[0];
        boolean told;
        int found;
        int foundAgain;

        States(Covering covering, Machine tiles, Trees trees) {
            this.covering = covering;
            this.tiles = tiles;
            this.trees = trees;
        }

        void findAll() {
            int nodes = Math.min(trees.nodes, NODE_LIMIT);
            int size = Math.min(nodes, STATE_LIMIT) * tiles.width;
            stateCosts = withRoom(stateCosts, size);
            stateFlats = withRoom(stateFlats, size);
            found = 0;
            foundAgain = 0;
            reckonedCount = 0;
            told = true;
            for (int i = 0; i < nodes && told; i++) {
                int node = trees.byEnd[i];
                if (node < 0 || node >= NODE_LIMIT) {
                    continue;
                }
                int twin = findTwin(node);
                if (twin >= 0) {
                    ofNode[node] = stateOf(twin);
                    foundAgain++;
                } else {
                    ofNode[node] = reckonState(node);
                    told = ofNode[node] >= 0;
                    keepReckoned(node);
                }
            }
        }

        private void keepReckoned(int node) {
            if (reckonedCount < NODE_LIMIT) {
                reckoned[reckonedCount] = node;
                reckonedCount++;
            }
        }

        int stateOf(int node) {
            return Covering.at(ofNode, node);
        }

        boolean areEven() {
            for (int node = 0; node < trees.nodes && node < NODE_LIMIT; node++) {
                for (int kind = 0; kind < tiles.width; kind++) {
                    int flat = Covering.at(stateFlats, stateOf(node) * tiles.width + kind);
                    if (flat >= 0 && flat != covering.flatOf(node, kind)) {
                        return false;
                    }
                }
            }
            return true;
        }

        private int findTwin(int node) {
            for (int i = 0; i < reckonedCount && i < NODE_LIMIT; i++) {
                int other = reckoned[i];
                if (other >= 0 && other < NODE_LIMIT && areTwins(node, other)) {
                    return other;
                }
            }
            return NONE;
        }

        private boolean areTwins(int node, int other) {
            int name = trees.name[node];
            if (name != trees.name[other]) {
                return false;
            }
            if (name == NUMBER) {
                return trees.value[node] == trees.value[other];
            }
            return stateOf(trees.left[node]) == stateOf(trees.left[other])
                    && stateOf(trees.right[node]) == stateOf(trees.right[other]);
        }

        private int reckonState(int node) {
            covering.reckon(node, stateCosts, stateOf(trees.left[node]), stateOf(trees.right[node]));
            lowerCosts(covering.costs, covering.flats, Math.min(tiles.width, WIDTH_LIMIT));
            for (int s = 0; s < found; s++) {
                if (isState(s)) {
                    return s;
                }
            }
            if (found >= STATE_LIMIT) {
                return NONE;
            }
            covering.copyRow(covering.costs, stateCosts, found);
            covering.copyRow(covering.flats, stateFlats, found);
            found++;
            return found - 1;
        }

        private static void lowerCosts(int[] costs, int[] flats, int width) {
            int least = Integer.MAX_VALUE;
            for (int kind = 0; kind < width; kind++) {
                if (flats[kind] >= 0) {
                    least = Math.min(least, costs[kind]);
                }
            }
            for (int kind = 0; kind < width; kind++) {
                if (flats[kind] >= 0 && costs[kind] - least < COST_LIMIT) {
                    costs[kind] -= least;
                } else {
                    costs[kind] = NONE;
                    flats[kind] = NONE;
                }
            }
        }

        private boolean isState(int s) {
            int start = s * tiles.width;
            for (int kind = 0; kind < tiles.width && kind < WIDTH_LIMIT; kind++) {
                if (Covering.at(stateFlats, start + kind) != covering.flats[kind]
                        || Covering.at(stateCosts, start + kind) != covering.costs[kind]) {
                    return false;
                }
            }
            return true;
        }
    }

    /**
     * The steps of a program: its INSTRUCTIONS and, for each TREE, one more step that stands above its first
     * INSTRUCTIONS and does what is in none of them. A step's number is less than those of its OPERANDS.
     */
    private static final class Choice {
        private static final int FIRST_ROOM = 64;

        private final Covering covering;
        private final Machine tiles;
        private final Trees trees;
        private final boolean[] busy = new boolean[NODE_LIMIT + 1];
        private int[] nodes = new int[FIRST_ROOM];
        private int[] flats = new int[FIRST_ROOM];
        private int[] above = new int[FIRST_ROOM];
        /** Where a step's OPERANDS begin in 'operands' and in 'byNeed', and how many they are. */
        private int[] starts = new int[0];
        private int[] counts = new int[0];
        private int[] operands = new int[0];
        private int[] byNeed = new int[0];
        private int[] needs = new int[0];
        /** How many steps a step is with all that is below it, and where these begin in the order. */
        private int[] sizes = new int[0];
        private int[] firsts = new int[0];
        private int[] put = new int[0];
        private int[] registers = new int[0];
        int[] putNodes = new int[0];
        int size;
        int instructions;
        int greatestNeed;

        Choice(Covering covering, Machine tiles, Trees trees) {
            this.covering = covering;
            this.tiles = tiles;
            this.trees = trees;
        }

        void make() {
            size = 0;
            for (int t = 0; t < trees.count && t < TREE_LIMIT; t++) {
                choose(trees.roots[t], 0, addStep(trees.roots[t], NONE, NONE), 0);
            }
            makeRoom();
            gatherOperands();
            reckonNeeds();
            putInOrder();
            giveRegisters();
        }

        private void choose(int node, int kind, int aboveStep, int depth) {
            if (node < 0 || depth > OPEN_EXPRESSIONS) {
                return;
            }
            int step = aboveStep;
            int flat = covering.flatOf(node, kind);
            for (int links = 0; links <= KIND_LIMIT && flat >= 0 && flat < FLAT_LIMIT; links++) {
                if (tiles.price[flat] > 0) {
                    step = addStep(node, flat, step);
                }
                if (tiles.name[flat] != CHAIN) {
                    break;
                }
                flat = covering.flatOf(node, tiles.left[flat]);
            }
            if (flat >= 0 && flat < FLAT_LIMIT && node < NODE_LIMIT) {
                choose(trees.left[node], tiles.left[flat], step, depth + 1);
                choose(trees.right[node], tiles.right[flat], step, depth + 1);
            }
        }

        private int addStep(int node, int flat, int aboveStep) {
            if (size >= nodes.length || size >= flats.length || size >= above.length) {
                int room = 2 * size + FIRST_ROOM;
                nodes = Arrays.copyOf(nodes, room);
                flats = Arrays.copyOf(flats, room);
                above = Arrays.copyOf(above, room);
            }
            nodes[size] = node;
            flats[size] = flat;
            above[size] = aboveStep;
            size++;
            return size - 1;
        }

        private void makeRoom() {
            starts = withRoom(starts, size);
            counts = withRoom(counts, size);
            operands = withRoom(operands, size);
            byNeed = withRoom(byNeed, size);
            needs = withRoom(needs, size);
            sizes = withRoom(sizes, size);
            firsts = withRoom(firsts, size);
            put = withRoom(put, size);
            registers = withRoom(registers, size);
            putNodes = withRoom(putNodes, size);
        }

        private void gatherOperands() {
            for (int step = 0; step < size; step++) {
                counts[step] = 0;
            }
            for (int step = 0; step < size; step++) {
                if (hasAbove(step)) {
                    counts[above[step]]++;
                }
            }
            int start = 0;
            for (int step = 0; step < size; step++) {
                starts[step] = start;
                start += counts[step];
                counts[step] = 0;
            }
            for (int step = 0; step < size; step++) {
                if (hasAbove(step)) {
                    addOperand(above[step], step);
                }
            }
        }

        private boolean hasAbove(int step) {
            return above[step] >= 0 && above[step] < step;
        }

        private void addOperand(int step, int operand) {
            int where = starts[step] + counts[step];
            if (where >= 0 && where < size) {
                operands[where] = operand;
                byNeed[where] = operand;
                counts[step]++;
            }
        }

        private void reckonNeeds() {
            instructions = 0;
            greatestNeed = 0;
            for (int step = size - 1; step >= 0; step--) {
                sortByNeed(starts[step], starts[step] + counts[step]);
                int need = 1;
                int below = 1;
                for (int i = 0; i < counts[step]; i++) {
                    int operand = Covering.at(byNeed, starts[step] + i);
                    need = Math.max(need, Covering.at(needs, operand) + i);
                    below += Covering.at(sizes, operand);
                }
                needs[step] = need;
                sizes[step] = below;
                if (flats[step] >= 0) {
                    instructions++;
                    greatestNeed = Math.max(greatestNeed, need);
                }
            }
        }

        private void sortByNeed(int from, int to) {
            for (int i = from + 1; i < to && i < size; i++) {
                int moved = byNeed[i];
                int need = needAt(i);
                int hole = i;
                while (hole > from && hole > 0 && needAt(hole - 1) < need) {
                    byNeed[hole] = byNeed[hole - 1];
                    hole--;
                }
                byNeed[hole] = moved;
            }
        }

        private int needAt(int where) {
            return Covering.at(needs, Covering.at(byNeed, where));
        }

        private void putInOrder() {
            int next = 0;
            for (int step = 0; step < size; step++) {
                if (above[step] < 0) {
                    firsts[step] = next;
                    next += sizes[step];
                }
                int first = firsts[step];
                for (int i = 0; i < counts[step]; i++) {
                    int operand = Covering.at(byNeed, starts[step] + i);
                    if (operand >= 0 && operand < size) {
                        firsts[operand] = first;
                        first += sizes[operand];
                    }
                }
                if (first >= 0 && first < size) {
                    put[first] = step;
                    putNodes[first] = nodes[step];
                }
            }
        }

        private void giveRegisters() {
            for (int r = 0; r < busy.length; r++) {
                busy[r] = false;
            }
            for (int i = 0; i < size; i++) {
                int step = put[i];
                if (step >= 0 && step < size) {
                    giveRegister(step);
                }
            }
        }

        private void giveRegister(int step) {
            // The step above a TREE's first INSTRUCTIONS frees theirs, so each TREE begins with all free.
            for (int i = 0; i < counts[step]; i++) {
                setBusy(registerOf(step, i), false);
            }
            registers[step] = flats[step] >= 0 ? leastFree() : NONE;
            setBusy(registers[step], true);
        }

        private int registerOf(int step, int operand) {
            return Covering.at(registers, Covering.at(operands, starts[step] + operand));
        }

        private void setBusy(int register, boolean now) {
            if (register >= 0 && register < busy.length) {
                busy[register] = now;
            }
        }

        private int leastFree() {
            int register = 0;
            while (register < busy.length - 1 && busy[register]) {
                register++;
            }
            return register;
        }

        void writeTo(Result result) {
            result.length = 0;
            for (int i = 0; i < size; i++) {
                int step = put[i];
                if (step >= 0 && step < size && flats[step] >= 0) {
                    writeInstruction(step, result);
                }
            }
        }

        private void writeInstruction(int step, Result result) {
            result.addText("r");
            result.addNumber(registers[step]);
            result.addText(" = ");
            result.addNumber(Covering.at(tiles.ruleNumber, flats[step]));
            for (int i = 0; i < counts[step]; i++) {
                result.addText(" r");
                result.addNumber(registerOf(step, i));
            }
            result.addByte(10);
        }
    }

    /** The bytes of the latest LISTING, in one row that only grows, so that many listings make no new objects. */
    private static final class Result {
        private static final int FIRST_ROOM = 256;

        private byte[] bytes = new byte[FIRST_ROOM];
        int length;

        void addByte(int b) {
            if (length >= bytes.length) {
                bytes = Arrays.copyOf(bytes, 2 * length + FIRST_ROOM);
            }
            bytes[length] = (byte) b;
            length++;
        }

        void addText(String text) {
            for (int i = 0; i < text.length(); i++) {
                addByte(text.charAt(i));
            }
        }

        void addNumber(int number) {
            int scale = 1;
            while (scale < 100_000_000 && scale <= number / 10) {
                scale *= 10;
            }
            for (; scale > 0; scale /= 10) {
                addByte('0' + number / scale % 10);
            }
        }

        long eightFrom(int from) {
            long eight = 0;
            for (int i = 0; i < 8; i++) {
                int where = from + i;
                eight <<= 8;
                if (where >= 0 && where < length && where < bytes.length) {
                    eight |= bytes[where] & 255;
                }
            }
            return eight;
        }
    }

    /** Does NODES; one that has been done is not looked into again, so INSTRUCTIONS use their OPERANDS' values. */
    private static final class Runner {
        private final Trees trees;
        private final boolean[] done = new boolean[NODE_LIMIT];
        private final int[] values = new int[NODE_LIMIT];
        final int[] variables = new int[VARIABLE_COUNT];
        final int[] cells = new int[CELL_COUNT];
        int answer;
        private boolean returned;

        Runner(Trees trees) {
            this.trees = trees;
        }

        void start(int[] given) {
            for (int v = 0; v < VARIABLE_COUNT && v < given.length; v++) {
                variables[v] = given[v];
            }
            for (int j = 0; j < CELL_COUNT; j++) {
                cells[j] = 0;
            }
            for (int node = 0; node < NODE_LIMIT; node++) {
                done[node] = false;
            }
            answer = 0;
            returned = false;
        }

        void doNodes(int[] nodes, int count) {
            for (int i = 0; i < count && i < nodes.length && !returned; i++) {
                int node = nodes[i];
                if (node >= 0 && node < NODE_LIMIT) {
                    values[node] = valueOf(node, 0);
                    done[node] = true;
                }
            }
        }

        private int valueOf(int node, int depth) {
            if (node < 0 || node >= NODE_LIMIT || depth > OPEN_EXPRESSIONS) {
                return 0;
            }
            if (done[node]) {
                return values[node];
            }
            int name = trees.name[node];
            if (name == NUMBER) {
                return trees.value[node];
            }
            if (name == VAR) {
                return variables[trees.value[node] & VARIABLE_COUNT - 1];
            }
            int first = valueOf(trees.left[node], depth + 1);
            int second = valueOf(trees.right[node], depth + 1);
            return name <= LOAD ? operate(name, first, second) : act(name, trees.value[node], first, second);
        }

        private int operate(int name, int first, int second) {
            switch (name) {
                case ADD: return first + second;
                case SUB: return first - second;
                case MUL: return first * second;
                case AND: return first & second;
                case OR: return first | second;
                case XOR: return first ^ second;
                case SHL: return first << second;
                case SHR: return first >> second;
                case LT: return first < second ? 1 : 0;
                case NEG: return -first;
                case NOT: return ~first;
                default: return cells[first & CELL_COUNT - 1];
            }
        }

        private int act(int name, int variable, int first, int second) {
            if (name == SET) {
                variables[variable & VARIABLE_COUNT - 1] = first;
            } else if (name == STORE) {
                cells[first & CELL_COUNT - 1] = second;
            } else {
                answer = first;
                returned = true;
            }
            return 0;
        }
    }
}
